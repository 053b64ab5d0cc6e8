/-! Math.max, Math.min -/
theorem mc_max : Cond.code Lib.Math.max.name Lib.Math.max.code 2 (some .int) ∈ zT := zT_in 668 (by decide +kernel) (by decide +kernel)
theorem ms_max : Cond.static Lib.Math.max.name ∈ zT := zT_in 667 (by decide +kernel) (by decide +kernel)
theorem mc_min : Cond.code Lib.Math.min.name Lib.Math.min.code 2 (some .int) ∈ zT := zT_in 665 (by decide +kernel) (by decide +kernel)
theorem ms_min : Cond.static Lib.Math.min.name ∈ zT := zT_in 664 (by decide +kernel) (by decide +kernel)
theorem m_in : Cond.initialized "java/lang/Math" ∈ zT := zT_in 99 (by decide +kernel) (by decide +kernel)
theorem mm_X11_287 : Cond.methodLink RX11 287 Lib.Math.min.name ∈ zT := zT_in 818 (by decide +kernel) (by decide +kernel)
theorem mm_X11_302 : Cond.methodLink RX11 302 Lib.Math.max.name ∈ zT := zT_in 830 (by decide +kernel) (by decide +kernel)
theorem mm_X9_84 : Cond.methodLink RX9 84 Lib.Math.min.name ∈ zT := zT_in 663 (by decide +kernel) (by decide +kernel)
theorem mm_X9_89 : Cond.methodLink RX9 89 Lib.Math.max.name ∈ zT := zT_in 666 (by decide +kernel) (by decide +kernel)
section ZMath
variable {l : Launch} {D : va_G} {M : ZM} {pc : Nat} {L : List (Option Value)} {S : List Value} {I : AI} {F : AR} {sh : AS} {v : Option Int32} {I' : AI} {F' : AR} {sh' : AS} {Post : Option Int32 → AI → AR → Prop}
theorem R_mmax {idx : Nat} {x y : Int32} (hd : decode M.2.1 pc = .ok (.invokestatic idx, 3)) (hl0 : Cond.methodLink M.1.cls idx Lib.Math.max.name ∈ zT) (hf : 1 ≤ M.2.2.2.2.1) (hlo : (S.map fun v => v.category).sum + 13 ≤ M.2.2.2.2.2.1) (kk : ZR l D M (pc + 3) L (.int (if x < y then y else x) :: S) I F sh v I' F' sh') : ZR l D M pc L (.int y :: .int x :: S) I F sh v I' F' sh' := by
  intro p e R s m args below meth c A H locs cells slots Q ro ga ls hX hZ hl hc hs hr
  have hcat : ((S.map (zv ro)).map fun v => v.category).sum = (S.map fun v => v.category).sum := by
    rw [List.map_map]
    congr 1
    exact List.map_congr_left (fun a _ => zv_cat ro a)
  exact va_mmax (own := M.1.cls) hX.1 hX.2.1 (by rw [hl.1]; exact hX.2.2.1) hX.2.2.2.1 (hX.w hl0) (hX.w ms_max) (hX.w m_in) (hX.w mc_max) (Nat.le_trans hf hX.2.2.2.2.2.2.1) (by rw [hcat]; exact Nat.le_trans hlo hX.2.2.2.2.2.2.2.1) (by omega) (by omega) hd (kk p e R s m args below meth c A H locs cells slots Q ro ga ls hX hZ hl hc hs hr)
theorem P_mmax {idx : Nat} {x y : Int32} (hd : decode M.2.1 pc = .ok (.invokestatic idx, 3)) (hl0 : Cond.methodLink M.1.cls idx Lib.Math.max.name ∈ zT) (hf : 1 ≤ M.2.2.2.2.1) (hlo : (S.map fun v => v.category).sum + 13 ≤ M.2.2.2.2.2.1) (kk : ZP l D M (pc + 3) L (.int (if x < y then y else x) :: S) I F Post) : ZP l D M pc L (.int y :: .int x :: S) I F Post := by
  obtain ⟨v9, I9, F9, h9, hp9⟩ := kk
  exact ⟨v9, I9, F9, R_mmax hd hl0 hf hlo h9, hp9⟩
theorem R_mmin {idx : Nat} {x y : Int32} (hd : decode M.2.1 pc = .ok (.invokestatic idx, 3)) (hl0 : Cond.methodLink M.1.cls idx Lib.Math.min.name ∈ zT) (hf : 1 ≤ M.2.2.2.2.1) (hlo : (S.map fun v => v.category).sum + 13 ≤ M.2.2.2.2.2.1) (kk : ZR l D M (pc + 3) L (.int (if y < x then y else x) :: S) I F sh v I' F' sh') : ZR l D M pc L (.int y :: .int x :: S) I F sh v I' F' sh' := by
  intro p e R s m args below meth c A H locs cells slots Q ro ga ls hX hZ hl hc hs hr
  have hcat : ((S.map (zv ro)).map fun v => v.category).sum = (S.map fun v => v.category).sum := by
    rw [List.map_map]
    congr 1
    exact List.map_congr_left (fun a _ => zv_cat ro a)
  exact va_mmin (own := M.1.cls) hX.1 hX.2.1 (by rw [hl.1]; exact hX.2.2.1) hX.2.2.2.1 (hX.w hl0) (hX.w ms_min) (hX.w m_in) (hX.w mc_min) (Nat.le_trans hf hX.2.2.2.2.2.2.1) (by rw [hcat]; exact Nat.le_trans hlo hX.2.2.2.2.2.2.2.1) (by omega) (by omega) hd (kk p e R s m args below meth c A H locs cells slots Q ro ga ls hX hZ hl hc hs hr)
theorem P_mmin {idx : Nat} {x y : Int32} (hd : decode M.2.1 pc = .ok (.invokestatic idx, 3)) (hl0 : Cond.methodLink M.1.cls idx Lib.Math.min.name ∈ zT) (hf : 1 ≤ M.2.2.2.2.1) (hlo : (S.map fun v => v.category).sum + 13 ≤ M.2.2.2.2.2.1) (kk : ZP l D M (pc + 3) L (.int (if y < x then y else x) :: S) I F Post) : ZP l D M pc L (.int y :: .int x :: S) I F Post := by
  obtain ⟨v9, I9, F9, h9, hp9⟩ := kk
  exact ⟨v9, I9, F9, R_mmin hd hl0 hf hlo h9, hp9⟩
theorem nI_min {a b : Nat} (ha : a < 2 ^ 31) (hb : b < 2 ^ 31) : (if nI b < nI a then nI b else nI a) = nI (min a b) := by
  by_cases h : b < a
  · rw [if_pos ((nI_ltI hb ha).mpr h), Nat.min_eq_right (by omega)]
  · rw [if_neg (fun z => h ((nI_ltI hb ha).mp z)), Nat.min_eq_left (by omega)]
theorem nI_max {a b : Nat} (ha : a < 2 ^ 31) (hb : b < 2 ^ 31) : (if nI a < nI b then nI b else nI a) = nI (max a b) := by
  by_cases h : a < b
  · rw [if_pos ((nI_ltI ha hb).mpr h), Nat.max_eq_right (by omega)]
  · rw [if_neg (fun z => h ((nI_ltI ha hb).mp z)), Nat.max_eq_left (by omega)]
theorem P_mminN {idx a b : Nat} (hd : decode M.2.1 pc = .ok (.invokestatic idx, 3)) (hl0 : Cond.methodLink M.1.cls idx Lib.Math.min.name ∈ zT) (hf : 1 ≤ M.2.2.2.2.1) (hlo : (S.map fun v => v.category).sum + 13 ≤ M.2.2.2.2.2.1) (ha : a < 2 ^ 31) (hb : b < 2 ^ 31) (kk : ZP l D M (pc + 3) L (.int (nI (min a b)) :: S) I F Post) : ZP l D M pc L (.int (nI b) :: .int (nI a) :: S) I F Post := P_mmin hd hl0 hf hlo (by rw [nI_min ha hb]; exact kk)
theorem P_mmaxN {idx a b : Nat} (hd : decode M.2.1 pc = .ok (.invokestatic idx, 3)) (hl0 : Cond.methodLink M.1.cls idx Lib.Math.max.name ∈ zT) (hf : 1 ≤ M.2.2.2.2.1) (hlo : (S.map fun v => v.category).sum + 13 ≤ M.2.2.2.2.2.1) (ha : a < 2 ^ 31) (hb : b < 2 ^ 31) (kk : ZP l D M (pc + 3) L (.int (nI (max a b)) :: S) I F Post) : ZP l D M pc L (.int (nI b) :: .int (nI a) :: S) I F Post := P_mmax hd hl0 hf hlo (by rw [nI_max ha hb]; exact kk)
end ZMath
