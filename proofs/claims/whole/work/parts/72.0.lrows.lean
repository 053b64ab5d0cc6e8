/-! the memory while the constructors run: references by a list, the ints all 0 -/
def zFov (B : AR) (l : List (Nat × Nat × Nat)) : AR := fun a k => match l.find? (fun q => q.1 == a && q.2.1 == k) with
  | some q => some q.2.2
  | none => B a k
def fN : AR := fun _ _ => none
def z0 : AI := fun _ _ => 0
theorem zFov_put {B : AR} {l : List (Nat × Nat × Nat)} {a k b : Nat} : zuR (zFov B l) a k (some b) = zFov B ((a, k, b) :: l) := by
  funext x y
  unfold zuR va_up zFov
  rw [List.find?_cons]
  by_cases hx : x = a
  · subst hx
    rw [if_pos rfl]
    by_cases hy : y = k
    · subst hy
      rw [if_pos rfl]
      simp
    · rw [if_neg hy]
      have h1 : (x == x && k == y) = false := by
        rw [Bool.and_eq_false_iff]
        exact Or.inr (beq_eq_false_iff_ne.mpr (fun z => hy z.symm))
      simp only [h1]
  · rw [if_neg hx]
    have h1 : (a == x && k == y) = false := by
      rw [Bool.and_eq_false_iff]
      exact Or.inl (beq_eq_false_iff_ne.mpr (fun z => hx z.symm))
    simp only [h1]
theorem zFov_no {B : AR} {l : List (Nat × Nat × Nat)} {a : Nat} (h : l.all (fun q => !(q.1 == a)) = true) (hB : ∀ k, B a k = none) : ∀ k, zFov B l a k = none := by
  intro k
  unfold zFov
  have h1 : l.find? (fun q => q.1 == a && q.2.1 == k) = none := by
    rw [List.find?_eq_none]
    intro q hq
    have h2 := List.all_eq_true.mp h q hq
    simp only [Bool.not_eq_true'] at h2
    simp [h2]
  rw [h1]
  exact hB k
def zGl (a N : Nat) : List (Nat × Nat × Nat) := (List.range N).map (fun j => (a, j, a + 1 + j))
theorem zGl_find (a x y : Nat) : ∀ N, (zGl a N).find? (fun q => q.1 == x && q.2.1 == y) = if x = a ∧ y < N then some (a, y, a + 1 + y) else none
  | 0 => by rw [if_neg (by omega)]; rfl
  | N + 1 => by
    have ih := zGl_find a x y N
    unfold zGl at ih ⊢
    rw [List.range_succ, List.map_append, List.find?_append, ih]
    by_cases h1 : x = a ∧ y < N
    · rw [if_pos h1, if_pos ⟨h1.1, by omega⟩]; rfl
    · rw [if_neg h1]
      by_cases h2 : x = a ∧ y = N
      · obtain ⟨rfl, rfl⟩ := h2
        rw [if_pos ⟨rfl, by omega⟩]
        simp
      · rw [if_neg (by omega)]
        have h3 : (a == x && N == y) = false := by
          rw [Bool.and_eq_false_iff, beq_eq_false_iff_ne, beq_eq_false_iff_ne]
          omega
        simp [h3]
theorem zFov_grid {B : AR} {l : List (Nat × Nat × Nat)} {a N : Nat} (h : l.all (fun q => !(q.1 == a)) = true) (hB : ∀ k, B a k = none) : zFg (zFov B l) a N = zFov B (zGl a N ++ l) := by
  funext x y
  unfold zFg va_up
  have e : zFov B (zGl a N ++ l) x y = if x = a ∧ y < N then some (a + 1 + y) else zFov B l x y := by
    unfold zFov
    rw [List.find?_append, zGl_find]
    by_cases h1 : x = a ∧ y < N
    · rw [if_pos h1, if_pos h1]; rfl
    · rw [if_neg h1, if_neg h1]; rfl
  rw [e]
  by_cases hx : x = a
  · subst hx
    rw [if_pos rfl]
    by_cases hy : y < N
    · rw [if_pos hy, if_pos ⟨rfl, hy⟩]
    · rw [if_neg hy, if_neg (by omega), zFov_no h hB]
  · rw [if_neg hx, if_neg (by omega)]
def zOkS (n : Nat) (S : List Value) : Bool := S.all (fun v => match v with | .ref b => decide (b < n) || decide (90000 ≤ b) | _ => true)
theorem zOkS_ok {n : Nat} {S : List Value} (h : zOkS n S = true) : ∀ b, Value.ref b ∈ S → b < n ∨ 90000 ≤ b := by
  intro b hb
  have := List.all_eq_true.mp h _ hb
  simpa using this
def zOkL (n : Nat) (L : List (Option Value)) : Bool := L.all (fun v => match v with | some (.ref b) => decide (b < n) || decide (90000 ≤ b) | _ => true)
theorem zOkL_ok {n : Nat} {L : List (Option Value)} (h : zOkL n L = true) : ∀ b, some (Value.ref b) ∈ L → b < n ∨ 90000 ≤ b := by
  intro b hb
  have := List.all_eq_true.mp h _ hb
  simpa using this
theorem zNew_of {L : List (Option Value)} {S : List Value} {sh th sh' : AS} {n : Nat} (hn : sh.length = n) (h : (decide (n < th.length) && decide (th.length ≤ sh'.length) && decide (zsl sh ≤ zsl th) && decide (zsl th ≤ zsl sh')) = true) (hS : zOkS n S = true) (hL : zOkL n L = true) : zNew L S sh th sh' := by
  subst hn
  simp only [Bool.and_eq_true, decide_eq_true_eq] at h
  exact Or.inr ⟨h.1.1.1, h.1.1.2, h.1.2, h.2, zOkS_ok hS, zOkL_ok hL⟩
section LRows
variable {Y : YP} {l : Launch} {D : va_G} {M : ZM} {shf : AS} {pc : Nat} {L : List (Option Value)} {S : List Value} {I : AI} {B : AR} {l0 : List (Nat × Nat × Nat)} {sh : AS} {Post : Option Int32 → AI → AR → Prop}
theorem L_new {idx n : Nat} {sh2 : AS} (c0 : Nat) (hd : decode M.2.1 pc = .ok (.new idx, 3)) (hc0 : c0 < 13) (hcl : Cond.classLink M.1.cls idx (zRn c0) ∈ zT) (hinst : Cond.instantiable (zRn c0) (zNf c0) ∈ zT) (hini : Cond.initialized (zRn c0) ∈ zT) (hn : sh.length = n) (hI : ∀ k, I n k = 0) (hl : l0.all (fun q => !(q.1 == n)) = true) (hB : ∀ k, B n k = none) (h : (decide (n < 90000) && decide (n + 1 ≤ shf.length) && decide (zsl sh + zNf c0 ≤ zsl shf)) = true) (hS : zOkS n S = true) (hL : zOkL n L = true) (hsh : sh ++ [(c0, zNf c0)] = sh2)
    (kk : ZC Y l D M shf (pc + 3) L (.ref n :: S) I (zFov B l0) sh2 Post) : ZC Y l D M shf pc L S I (zFov B l0) sh Post := by
  subst hn hsh
  simp only [Bool.and_eq_true, decide_eq_true_eq] at h
  exact C_new c0 hd hc0 hcl hinst hini hI (zFov_no hl hB) h.1.1 ⟨h.1.2, h.2⟩ (zOkS_ok hS) (zOkL_ok hL) kk
theorem L_newa {at9 : ArrayType} {n : Nat} {sh2 : AS} (k0 N : Nat) (hd : decode M.2.1 pc = .ok (.newarray at9, 2)) (hk0 : (decide (13 ≤ k0) && decide (k0 < 17)) = true) (hty : newarray.typeOf at9 = zKt k0) (hdf : defaultValue (zKt k0) = .int 0) (har : Cond.arrayClass (newarray.typeOf at9) ∈ zT) (hN : N ≤ 1000) (hby : N * componentBytes (zKt k0) ≤ 536870912) (hn : sh.length = n) (hI : ∀ k, I n k = 0) (h : (decide (n < 90000) && decide (n + 1 ≤ shf.length) && decide (zsl sh + N ≤ zsl shf)) = true) (hS : zOkS n S = true) (hL : zOkL n L = true) (hsh : sh ++ [(k0, N)] = sh2)
    (kk : ZC Y l D M shf (pc + 2) L (.ref n :: S) I (zFov B l0) sh2 Post) : ZC Y l D M shf pc L (.int (nI N) :: S) I (zFov B l0) sh Post := by
  subst hn hsh
  simp only [Bool.and_eq_true, decide_eq_true_eq] at h
  exact C_newa k0 N hd hk0 hty hdf har rfl hN hby hI h.1.1 ⟨h.1.2, h.2⟩ (zOkS_ok hS) (zOkL_ok hL) kk
theorem L_anew {idx n : Nat} {sh2 : AS} (N : Nat) (hd : decode M.2.1 pc = .ok (.anewarray idx, 3)) (hcl : Cond.classLink M.1.cls idx "LostAndTaxed$Signs" ∈ zT) (hov : Cond.arrayOver (.object "LostAndTaxed$Signs") ∈ zNl) (hN : N ≤ 1000) (hn : sh.length = n) (hl : l0.all (fun q => !(q.1 == n)) = true) (hB : ∀ k, B n k = none) (h : (decide (n < 90000) && decide (n + 1 ≤ shf.length) && decide (zsl sh + N ≤ zsl shf)) = true) (hS : zOkS n S = true) (hL : zOkL n L = true) (hsh : sh ++ [(17, N)] = sh2)
    (kk : ZC Y l D M shf (pc + 3) L (.ref n :: S) I (zFov B l0) sh2 Post) : ZC Y l D M shf pc L (.int (nI N) :: S) I (zFov B l0) sh Post := by
  subst hn hsh
  simp only [Bool.and_eq_true, decide_eq_true_eq] at h
  exact C_anew N hd hcl hov rfl hN (zFov_no hl hB) h.1.1 ⟨h.1.2, h.2⟩ (zOkS_ok hS) (zOkL_ok hL) kk
theorem L_multi {idx n : Nat} {sh2 : AS} {l1 : List (Nat × Nat × Nat)} (N K : Nat) (hd : decode M.2.1 pc = .ok (.multianewarray idx 2, 4)) (hcl : Cond.classLink M.1.cls idx ("[" ++ (FieldType.array .int).toString) ∈ zT) (hov : Cond.arrayOver (.array .int) ∈ zNl) (har : Cond.arrayClass .int ∈ zT) (hN : N ≤ 1000) (hK : K ≤ 1000) (hn : sh.length = n) (hI : ∀ a k, n ≤ a → I a k = 0) (hl : l0.all (fun q => !(q.1 == n)) = true) (hB : ∀ k, B n k = none) (h : (decide (n + 1 + N ≤ 90000) && decide (n + (1 + N) ≤ shf.length) && decide (zsl sh + (N + N * K) ≤ zsl shf)) = true) (hS : zOkS n S = true) (hL : zOkL n L = true) (hsh : sh ++ (18, N) :: List.replicate N (15, K) = sh2) (hl1 : zGl n N ++ l0 = l1)
    (kk : ZC Y l D M shf (pc + 4) L (.ref n :: S) I (zFov B l1) sh2 Post) : ZC Y l D M shf pc L (.int (nI K) :: .int (nI N) :: S) I (zFov B l0) sh Post := by
  subst hn hsh hl1
  simp only [Bool.and_eq_true, decide_eq_true_eq] at h
  refine C_multi N K hd hcl hov har rfl rfl hN hK hI h.1.1 ⟨h.1.2, h.2⟩ (zOkS_ok hS) (zOkL_ok hL) ?_
  rw [zFov_grid hl hB]
  exact kk
theorem L_putr {idx a : Nat} (c k : Nat) {n b : Nat} {l1 : List (Nat × Nat × Nat)} (hd : decode M.2.1 pc = .ok (.putfield idx, 3)) (hf : zFl M.1.cls idx c k) (hs : sh[a]? = some (c, n)) (hc : (decide (c < 13) && decide (k < n) && decide (n = zNf c) && (zTy c k).isReference) = true) (hfin : (zTb c k).2.2.2 = false ∨ (M.1.name = "<init>" ∧ (zTb c k).1 = M.1.cls ∧ Cond.fieldLink M.1.cls idx (zTb c k).1 (zTb c k).2.1 (zTb c k).2.2.1 ∈ zT)) (hb : b < sh.length) (hn : ∀ q : Nat, narrow (zTy c k) (.ref q) = .ref q) (hfit : ∀ q : Nat, fits (zTy c k) (.ref q) = true) (hl1 : (a, k, b) :: l0 = l1)
    (kk : ZC Y l D M shf (pc + 3) L S I (zFov B l1) sh Post) : ZC Y l D M shf pc L (.ref b :: .ref a :: S) I (zFov B l0) sh Post := by
  subst hl1
  refine C_putr c k hd hf hs hc hfin hb hn hfit ?_
  rw [zFov_put]
  exact kk
theorem L_aast {a b n kn j : Nat} {l1 : List (Nat × Nat × Nat)} (hd : decode M.2.1 pc = .ok (.aastore, 1)) (hs0 : sh[a]? = some (17, n)) (hb : sh[b]? = some (5, kn)) (hj : j < n) (hn : n < 2 ^ 31) (hl1 : (a, j, b) :: l0 = l1)
    (kk : ZC Y l D M shf (pc + 1) L S I (zFov B l1) sh Post) : ZC Y l D M shf pc L (.ref b :: .int (nI j) :: .ref a :: S) I (zFov B l0) sh Post := by
  subst hl1
  refine C_aast j hd hs0 hb rfl hj hn ?_
  rw [zFov_put]
  exact kk
end LRows
theorem ac_int : Cond.arrayClass .int ∈ zT := zT_in 141 (by decide +kernel) (by decide +kernel)
theorem ac_char : Cond.arrayClass .char ∈ zT := zT_in 124 (by decide +kernel) (by decide +kernel)
theorem ac_boolean : Cond.arrayClass .boolean ∈ zT := zT_in 310 (by decide +kernel) (by decide +kernel)
theorem ac_byte : Cond.arrayClass .byte ∈ zT := zT_in 580 (by decide +kernel) (by decide +kernel)
theorem ao_int : Cond.arrayOver (.array .int) ∈ zNl := zNl_in 155 (by decide +kernel) (by decide +kernel)
theorem ao_signs : Cond.arrayOver (.object "LostAndTaxed$Signs") ∈ zNl := zNl_in 349 (by decide +kernel) (by decide +kernel)
