/-! PURE: numbers by a list of changes -/
def ovN (B : Nat → Nat → Nat) (l : List (Nat × Nat × Nat)) : Nat → Nat → Nat := fun a k => match l.find? (fun q => q.1 == a && q.2.1 == k) with
  | some q => q.2.2
  | none => B a k
theorem ovN_nil (B : Nat → Nat → Nat) : ovN B [] = B := rfl
theorem ovN_put {B : Nat → Nat → Nat} {l : List (Nat × Nat × Nat)} {a k x : Nat} : zuN (ovN B l) a k x = ovN B ((a, k, x) :: l) := by
  funext u y
  unfold zuN va_up ovN
  rw [List.find?_cons]
  by_cases hx : u = a
  · subst hx
    rw [if_pos rfl]
    by_cases hy : y = k
    · subst hy
      rw [if_pos rfl]
      simp
    · rw [if_neg hy]
      have h1 : (u == u && k == y) = false := by
        rw [Bool.and_eq_false_iff]
        exact Or.inr (beq_eq_false_iff_ne.mpr (fun z => hy z.symm))
      simp only [h1]
  · rw [if_neg hx]
    have h1 : (a == u && k == y) = false := by
      rw [Bool.and_eq_false_iff]
      exact Or.inl (beq_eq_false_iff_ne.mpr (fun z => hx z.symm))
    simp only [h1]
theorem ovN_no {B : Nat → Nat → Nat} {l : List (Nat × Nat × Nat)} {a : Nat} (h : l.all (fun q => !(q.1 == a)) = true) (k : Nat) : ovN B l a k = B a k := by
  unfold ovN
  have h1 : l.find? (fun q => q.1 == a && q.2.1 == k) = none := by
    rw [List.find?_eq_none]
    intro q hq
    have h2 := List.all_eq_true.mp h q hq
    simp only [Bool.not_eq_true'] at h2
    simp [h2]
  rw [h1]
theorem ovN_eq {B B2 : Nat → Nat → Nat} {l l2 : List (Nat × Nat × Nat)} (h : (l ++ l2).all (fun q => decide (ovN B l q.1 q.2.1 = ovN B2 l2 q.1 q.2.1)) = true) {a k : Nat} (hB : B a k = B2 a k) : ovN B l a k = ovN B2 l2 a k := by
  have key : ∀ q, q ∈ l ++ l2 → (q.1 == a && q.2.1 == k) = true → ovN B l a k = ovN B2 l2 a k := by
    intro q hq e
    have h1 := List.all_eq_true.mp h q hq
    simp only [decide_eq_true_eq] at h1
    simp only [Bool.and_eq_true, beq_iff_eq] at e
    rw [e.1, e.2] at h1
    exact h1
  cases h1 : l.find? (fun q => q.1 == a && q.2.1 == k) with
  | some q => exact key q (List.mem_append_left _ (List.mem_of_find?_eq_some h1)) (by have := List.find?_some h1; exact this)
  | none =>
    cases h2 : l2.find? (fun q => q.1 == a && q.2.1 == k) with
    | some q => exact key q (List.mem_append_right _ (List.mem_of_find?_eq_some h2)) (by have := List.find?_some h2; exact this)
    | none =>
      unfold ovN
      rw [h1, h2]
      exact hB
section OvN
variable {B : Nat → Nat → Nat} {l : List (Nat × Nat × Nat)} {m x y z : Nat}
theorem dC_ov : dC (ovN B l) x = ovN B ((111, 1, x) :: l) := ovN_put
theorem dS_ov (h : ovN B l 112 1 = m) : dS (ovN B l) x y z = ovN B ((112, 1, m + 1) :: (115, 12 + m, z) :: (114, 12 + m, y) :: (113, 12 + m, x) :: l) := by
  unfold dS
  rw [h, ovN_put, ovN_put, ovN_put, ovN_put]
theorem dG_ov (h : ovN B l 109 13 = m) : dG (ovN B l) x y z = ovN B ((109, 13, m + 1) :: (121, 3 * m + 2, z) :: (121, 3 * m + 1, y) :: (121, 3 * m, x) :: l) := by
  unfold dG
  rw [h, ovN_put, ovN_put, ovN_put, ovN_put]
theorem dW_ov (h : ovN B l 116 1 = m) : dW (ovN B l) x y z = ovN B ((116, 1, m + 1) :: (119, 4 + m, z) :: (118, 4 + m, y) :: (117, 4 + m, x) :: l) := by
  unfold dW
  rw [h, ovN_put, ovN_put, ovN_put, ovN_put]
end OvN
theorem it_C {s : Nat → Nat → Nat} {f : Bool} {p v p1 : Nat} (h : s 110 p = 99) (ok : okC s f p = true) (e1 : zv1 s (p + 1) = v) (e2 : zn1 s (p + 1) = p1) : zItem s f p = some (dC s v, p1, f) := by
  subst e1 e2
  unfold zItem
  rw [if_pos h, if_pos ok]
theorem it_S {s : Nat → Nat → Nat} {f : Bool} {p x y z p1 p2 p3 : Nat} (h : s 110 p = 115) (ok : okS s p = true) (e1 : zv1 s (p + 1) = x) (e2 : zn1 s (p + 1) = p1) (e3 : zv1 s p1 = y) (e4 : zn1 s p1 = p2) (e5 : zv1 s p2 = z) (e6 : zn1 s p2 = p3) : zItem s f p = some (dS s x y z, p3, false) := by
  subst e1 e2 e3 e4 e5 e6
  unfold zItem
  rw [if_neg (by rw [h]; decide), if_pos h, if_pos ok]
theorem it_G {s : Nat → Nat → Nat} {f : Bool} {p x y z p1 p2 p3 : Nat} (h : s 110 p = 103) (ok : okG s p = true) (e1 : zv1 s (p + 1) = x) (e2 : zn1 s (p + 1) = p1) (e3 : zv1 s p1 = y) (e4 : zn1 s p1 = p2) (e5 : zv1 s p2 = z) (e6 : zn1 s p2 = p3) : zItem s f p = some (dG s x y z, p3, false) := by
  subst e1 e2 e3 e4 e5 e6
  unfold zItem
  rw [if_neg (by rw [h]; decide), if_neg (by rw [h]; decide), if_pos h, if_pos ok]
theorem it_W {s : Nat → Nat → Nat} {f : Bool} {p x y z p1 p2 p3 : Nat} (h : s 110 p = 119) (ok : okW s p = true) (e1 : zv1 s (p + 1) = x) (e2 : zn1 s (p + 1) = p1) (e3 : zv1 s p1 = y) (e4 : zn1 s p1 = p2) (e5 : zv1 s p2 = z) (e6 : zn1 s p2 = p3) : zItem s f p = some (dW s x y z, p3, false) := by
  subst e1 e2 e3 e4 e5 e6
  unfold zItem
  rw [if_neg (by rw [h]; decide), if_neg (by rw [h]; decide), if_neg (by rw [h]; decide), if_pos h, if_pos ok]
theorem zPar_go {n p p2 : Nat} {s s2 : Nat → Nat → Nat} {f f2 : Bool} (h : p < s 109 1) (e : zItem s f p = some (s2, p2, f2)) : zPar (n + 1) s f p = zPar n s2 f2 p2 := by
  show (if p < s 109 1 then _ else _) = _
  rw [if_pos h, e]
theorem zPar_end {n p : Nat} {s : Nat → Nat → Nat} {f : Bool} (h : ¬ p < s 109 1) : zPar n s f p = .inr s := by
  cases n with
  | zero => rfl
  | succ n =>
    show (if p < s 109 1 then _ else _) = _
    rw [if_neg h]
/-! the first town -/
def sT0 : Nat → Nat → Nat := fun a k => if a = 110 then txN.getD k 0 else if a = 109 then (if k = 1 then 101 else 0) else 0
def sZ0 : Nat → Nat → Nat := fun _ _ => 0
def tl_0 : List (Nat × Nat × Nat) := [(120, 5, 1), (120, 4, 3), (120, 3, 2), (109, 13, 0), (116, 1, 0), (112, 1, 0), (111, 1, 4)]
theorem sIni_0 : sIni sT0 = ovN sT0 tl_0 := by
  show sIni (ovN sT0 []) = _
  unfold sIni
  rw [ovN_put, ovN_put, ovN_put, ovN_put, ovN_put, ovN_put, ovN_put]
  rfl
def tl_1 : List (Nat × Nat × Nat) := (111, 1, 6) :: tl_0
theorem ti_0 : zItem (ovN sT0 tl_0) true 0 = some (ovN sT0 tl_1, 3, true) := Eq.trans (it_C (s := ovN sT0 tl_0) (f := true) (p := 0) (v := 6) (p1 := 3) (by decide +kernel) (by decide +kernel) (by decide +kernel) (by decide +kernel)) (by rw [dC_ov]; rfl)
def tl_2 : List (Nat × Nat × Nat) := (112, 1, 0+1) :: (115, 12 + 0, 3) :: (114, 12 + 0, 1) :: (113, 12 + 0, 0) :: tl_1
theorem ti_1 : zItem (ovN sT0 tl_1) true 3 = some (ovN sT0 tl_2, 10, false) := Eq.trans (it_S (s := ovN sT0 tl_1) (f := true) (p := 3) (p1 := 6) (p2 := 8) (p3 := 10) (x := 0) (y := 1) (z := 3) (by decide +kernel) (by decide +kernel) (by decide +kernel) (by decide +kernel) (by decide +kernel) (by decide +kernel) (by decide +kernel) (by decide +kernel)) (by rw [dS_ov (B := sT0) (l := tl_1) (m := 0) (by decide +kernel)]; rfl)
def tl_3 : List (Nat × Nat × Nat) := (112, 1, 1+1) :: (115, 12 + 1, 4) :: (114, 12 + 1, 2) :: (113, 12 + 1, 1) :: tl_2
theorem ti_2 : zItem (ovN sT0 tl_2) false 10 = some (ovN sT0 tl_3, 17, false) := Eq.trans (it_S (s := ovN sT0 tl_2) (f := false) (p := 10) (p1 := 13) (p2 := 15) (p3 := 17) (x := 1) (y := 2) (z := 4) (by decide +kernel) (by decide +kernel) (by decide +kernel) (by decide +kernel) (by decide +kernel) (by decide +kernel) (by decide +kernel) (by decide +kernel)) (by rw [dS_ov (B := sT0) (l := tl_2) (m := 1) (by decide +kernel)]; rfl)
def tl_4 : List (Nat × Nat × Nat) := (112, 1, 2+1) :: (115, 12 + 2, 2) :: (114, 12 + 2, 3) :: (113, 12 + 2, 2) :: tl_3
theorem ti_3 : zItem (ovN sT0 tl_3) false 17 = some (ovN sT0 tl_4, 24, false) := Eq.trans (it_S (s := ovN sT0 tl_3) (f := false) (p := 17) (p1 := 20) (p2 := 22) (p3 := 24) (x := 2) (y := 3) (z := 2) (by decide +kernel) (by decide +kernel) (by decide +kernel) (by decide +kernel) (by decide +kernel) (by decide +kernel) (by decide +kernel) (by decide +kernel)) (by rw [dS_ov (B := sT0) (l := tl_3) (m := 2) (by decide +kernel)]; rfl)
def tl_5 : List (Nat × Nat × Nat) := (112, 1, 3+1) :: (115, 12 + 3, 5) :: (114, 12 + 3, 4) :: (113, 12 + 3, 0) :: tl_4
theorem ti_4 : zItem (ovN sT0 tl_4) false 24 = some (ovN sT0 tl_5, 31, false) := Eq.trans (it_S (s := ovN sT0 tl_4) (f := false) (p := 24) (p1 := 27) (p2 := 29) (p3 := 31) (x := 0) (y := 4) (z := 5) (by decide +kernel) (by decide +kernel) (by decide +kernel) (by decide +kernel) (by decide +kernel) (by decide +kernel) (by decide +kernel) (by decide +kernel)) (by rw [dS_ov (B := sT0) (l := tl_4) (m := 3) (by decide +kernel)]; rfl)
def tl_6 : List (Nat × Nat × Nat) := (112, 1, 4+1) :: (115, 12 + 4, 6) :: (114, 12 + 4, 3) :: (113, 12 + 4, 4) :: tl_5
theorem ti_5 : zItem (ovN sT0 tl_5) false 31 = some (ovN sT0 tl_6, 38, false) := Eq.trans (it_S (s := ovN sT0 tl_5) (f := false) (p := 31) (p1 := 34) (p2 := 36) (p3 := 38) (x := 4) (y := 3) (z := 6) (by decide +kernel) (by decide +kernel) (by decide +kernel) (by decide +kernel) (by decide +kernel) (by decide +kernel) (by decide +kernel) (by decide +kernel)) (by rw [dS_ov (B := sT0) (l := tl_5) (m := 4) (by decide +kernel)]; rfl)
def tl_7 : List (Nat × Nat × Nat) := (112, 1, 5+1) :: (115, 12 + 5, 1) :: (114, 12 + 5, 4) :: (113, 12 + 5, 1) :: tl_6
theorem ti_6 : zItem (ovN sT0 tl_6) false 38 = some (ovN sT0 tl_7, 45, false) := Eq.trans (it_S (s := ovN sT0 tl_6) (f := false) (p := 38) (p1 := 41) (p2 := 43) (p3 := 45) (x := 1) (y := 4) (z := 1) (by decide +kernel) (by decide +kernel) (by decide +kernel) (by decide +kernel) (by decide +kernel) (by decide +kernel) (by decide +kernel) (by decide +kernel)) (by rw [dS_ov (B := sT0) (l := tl_6) (m := 5) (by decide +kernel)]; rfl)
def tl_8 : List (Nat × Nat × Nat) := (112, 1, 6+1) :: (115, 12 + 6, 2) :: (114, 12 + 6, 5) :: (113, 12 + 6, 3) :: tl_7
theorem ti_7 : zItem (ovN sT0 tl_7) false 45 = some (ovN sT0 tl_8, 52, false) := Eq.trans (it_S (s := ovN sT0 tl_7) (f := false) (p := 45) (p1 := 48) (p2 := 50) (p3 := 52) (x := 3) (y := 5) (z := 2) (by decide +kernel) (by decide +kernel) (by decide +kernel) (by decide +kernel) (by decide +kernel) (by decide +kernel) (by decide +kernel) (by decide +kernel)) (by rw [dS_ov (B := sT0) (l := tl_7) (m := 6) (by decide +kernel)]; rfl)
def tl_9 : List (Nat × Nat × Nat) := (109, 13, 0+1) :: (121, 3 * 0 + 2, 4) :: (121, 3 * 0 + 1, 5) :: (121, 3 * 0, 1) :: tl_8
theorem ti_8 : zItem (ovN sT0 tl_8) false 52 = some (ovN sT0 tl_9, 59, false) := Eq.trans (it_G (s := ovN sT0 tl_8) (f := false) (p := 52) (p1 := 55) (p2 := 57) (p3 := 59) (x := 1) (y := 5) (z := 4) (by decide +kernel) (by decide +kernel) (by decide +kernel) (by decide +kernel) (by decide +kernel) (by decide +kernel) (by decide +kernel) (by decide +kernel)) (by rw [dG_ov (B := sT0) (l := tl_8) (m := 0) (by decide +kernel)]; rfl)
def tl_10 : List (Nat × Nat × Nat) := (109, 13, 1+1) :: (121, 3 * 1 + 2, 3) :: (121, 3 * 1 + 1, 5) :: (121, 3 * 1, 4) :: tl_9
theorem ti_9 : zItem (ovN sT0 tl_9) false 59 = some (ovN sT0 tl_10, 66, false) := Eq.trans (it_G (s := ovN sT0 tl_9) (f := false) (p := 59) (p1 := 62) (p2 := 64) (p3 := 66) (x := 4) (y := 5) (z := 3) (by decide +kernel) (by decide +kernel) (by decide +kernel) (by decide +kernel) (by decide +kernel) (by decide +kernel) (by decide +kernel) (by decide +kernel)) (by rw [dG_ov (B := sT0) (l := tl_9) (m := 1) (by decide +kernel)]; rfl)
def tl_11 : List (Nat × Nat × Nat) := (109, 13, 2+1) :: (121, 3 * 2 + 2, 1) :: (121, 3 * 2 + 1, 5) :: (121, 3 * 2, 2) :: tl_10
theorem ti_10 : zItem (ovN sT0 tl_10) false 66 = some (ovN sT0 tl_11, 73, false) := Eq.trans (it_G (s := ovN sT0 tl_10) (f := false) (p := 66) (p1 := 69) (p2 := 71) (p3 := 73) (x := 2) (y := 5) (z := 1) (by decide +kernel) (by decide +kernel) (by decide +kernel) (by decide +kernel) (by decide +kernel) (by decide +kernel) (by decide +kernel) (by decide +kernel)) (by rw [dG_ov (B := sT0) (l := tl_10) (m := 2) (by decide +kernel)]; rfl)
def tl_12 : List (Nat × Nat × Nat) := (116, 1, 0+1) :: (119, 4 + 0, 5) :: (118, 4 + 0, 0) :: (117, 4 + 0, 0) :: tl_11
theorem ti_11 : zItem (ovN sT0 tl_11) false 73 = some (ovN sT0 tl_12, 80, false) := Eq.trans (it_W (s := ovN sT0 tl_11) (f := false) (p := 73) (p1 := 76) (p2 := 78) (p3 := 80) (x := 0) (y := 0) (z := 5) (by decide +kernel) (by decide +kernel) (by decide +kernel) (by decide +kernel) (by decide +kernel) (by decide +kernel) (by decide +kernel) (by decide +kernel)) (by rw [dW_ov (B := sT0) (l := tl_11) (m := 0) (by decide +kernel)]; rfl)
def tl_13 : List (Nat × Nat × Nat) := (116, 1, 1+1) :: (119, 4 + 1, 5) :: (118, 4 + 1, 0) :: (117, 4 + 1, 1) :: tl_12
theorem ti_12 : zItem (ovN sT0 tl_12) false 80 = some (ovN sT0 tl_13, 87, false) := Eq.trans (it_W (s := ovN sT0 tl_12) (f := false) (p := 80) (p1 := 83) (p2 := 85) (p3 := 87) (x := 1) (y := 0) (z := 5) (by decide +kernel) (by decide +kernel) (by decide +kernel) (by decide +kernel) (by decide +kernel) (by decide +kernel) (by decide +kernel) (by decide +kernel)) (by rw [dW_ov (B := sT0) (l := tl_12) (m := 1) (by decide +kernel)]; rfl)
def tl_14 : List (Nat × Nat × Nat) := (116, 1, 2+1) :: (119, 4 + 2, 0) :: (118, 4 + 2, 2) :: (117, 4 + 2, 2) :: tl_13
theorem ti_13 : zItem (ovN sT0 tl_13) false 87 = some (ovN sT0 tl_14, 94, false) := Eq.trans (it_W (s := ovN sT0 tl_13) (f := false) (p := 87) (p1 := 90) (p2 := 92) (p3 := 94) (x := 2) (y := 2) (z := 0) (by decide +kernel) (by decide +kernel) (by decide +kernel) (by decide +kernel) (by decide +kernel) (by decide +kernel) (by decide +kernel) (by decide +kernel)) (by rw [dW_ov (B := sT0) (l := tl_13) (m := 2) (by decide +kernel)]; rfl)
def tl_15 : List (Nat × Nat × Nat) := (116, 1, 3+1) :: (119, 4 + 3, 5) :: (118, 4 + 3, 0) :: (117, 4 + 3, 3) :: tl_14
theorem ti_14 : zItem (ovN sT0 tl_14) false 94 = some (ovN sT0 tl_15, 101, false) := Eq.trans (it_W (s := ovN sT0 tl_14) (f := false) (p := 94) (p1 := 97) (p2 := 99) (p3 := 101) (x := 3) (y := 0) (z := 5) (by decide +kernel) (by decide +kernel) (by decide +kernel) (by decide +kernel) (by decide +kernel) (by decide +kernel) (by decide +kernel) (by decide +kernel)) (by rw [dW_ov (B := sT0) (l := tl_14) (m := 3) (by decide +kernel)]; rfl)
theorem t_par : zPar 201 (sIni sT0) true 0 = .inr (ovN sT0 tl_15) := by
  rw [sIni_0]
  refine (zPar_go (n := 200) (by decide +kernel) ti_0).trans ?_
  refine (zPar_go (n := 199) (by decide +kernel) ti_1).trans ?_
  refine (zPar_go (n := 198) (by decide +kernel) ti_2).trans ?_
  refine (zPar_go (n := 197) (by decide +kernel) ti_3).trans ?_
  refine (zPar_go (n := 196) (by decide +kernel) ti_4).trans ?_
  refine (zPar_go (n := 195) (by decide +kernel) ti_5).trans ?_
  refine (zPar_go (n := 194) (by decide +kernel) ti_6).trans ?_
  refine (zPar_go (n := 193) (by decide +kernel) ti_7).trans ?_
  refine (zPar_go (n := 192) (by decide +kernel) ti_8).trans ?_
  refine (zPar_go (n := 191) (by decide +kernel) ti_9).trans ?_
  refine (zPar_go (n := 190) (by decide +kernel) ti_10).trans ?_
  refine (zPar_go (n := 189) (by decide +kernel) ti_11).trans ?_
  refine (zPar_go (n := 188) (by decide +kernel) ti_12).trans ?_
  refine (zPar_go (n := 187) (by decide +kernel) ti_13).trans ?_
  refine (zPar_go (n := 186) (by decide +kernel) ti_14).trans ?_
  exact zPar_end (by decide +kernel)
def rl_0 : List (Nat × Nat × Nat) := (111, 1, 6) :: []
def rl_1 : List (Nat × Nat × Nat) := (112, 1, 0 + 1) :: (115, 12 + 0, 3) :: (114, 12 + 0, 1) :: (113, 12 + 0, 0) :: rl_0
def rl_2 : List (Nat × Nat × Nat) := (112, 1, 1 + 1) :: (115, 12 + 1, 4) :: (114, 12 + 1, 2) :: (113, 12 + 1, 1) :: rl_1
def rl_3 : List (Nat × Nat × Nat) := (112, 1, 2 + 1) :: (115, 12 + 2, 2) :: (114, 12 + 2, 3) :: (113, 12 + 2, 2) :: rl_2
def rl_4 : List (Nat × Nat × Nat) := (112, 1, 3 + 1) :: (115, 12 + 3, 5) :: (114, 12 + 3, 4) :: (113, 12 + 3, 0) :: rl_3
def rl_5 : List (Nat × Nat × Nat) := (112, 1, 4 + 1) :: (115, 12 + 4, 6) :: (114, 12 + 4, 3) :: (113, 12 + 4, 4) :: rl_4
def rl_6 : List (Nat × Nat × Nat) := (112, 1, 5 + 1) :: (115, 12 + 5, 1) :: (114, 12 + 5, 4) :: (113, 12 + 5, 1) :: rl_5
def rl_7 : List (Nat × Nat × Nat) := (112, 1, 6 + 1) :: (115, 12 + 6, 2) :: (114, 12 + 6, 5) :: (113, 12 + 6, 3) :: rl_6
def rl_8 : List (Nat × Nat × Nat) := (109, 13, 0 + 1) :: (121, 3 * 0 + 2, 4) :: (121, 3 * 0 + 1, 5) :: (121, 3 * 0, 1) :: rl_7
def rl_9 : List (Nat × Nat × Nat) := (109, 13, 1 + 1) :: (121, 3 * 1 + 2, 3) :: (121, 3 * 1 + 1, 5) :: (121, 3 * 1, 4) :: rl_8
def rl_10 : List (Nat × Nat × Nat) := (109, 13, 2 + 1) :: (121, 3 * 2 + 2, 1) :: (121, 3 * 2 + 1, 5) :: (121, 3 * 2, 2) :: rl_9
def rl_11 : List (Nat × Nat × Nat) := (116, 1, 0 + 1) :: (119, 4 + 0, 5) :: (118, 4 + 0, 0) :: (117, 4 + 0, 0) :: rl_10
def rl_12 : List (Nat × Nat × Nat) := (116, 1, 1 + 1) :: (119, 4 + 1, 5) :: (118, 4 + 1, 0) :: (117, 4 + 1, 1) :: rl_11
def rl_13 : List (Nat × Nat × Nat) := (116, 1, 2 + 1) :: (119, 4 + 2, 0) :: (118, 4 + 2, 2) :: (117, 4 + 2, 2) :: rl_12
def rl_14 : List (Nat × Nat × Nat) := (116, 1, 3 + 1) :: (119, 4 + 3, 5) :: (118, 4 + 3, 0) :: (117, 4 + 3, 3) :: rl_13
def rl_15 : List (Nat × Nat × Nat) := (120, 5, 1) :: (120, 4, 3) :: (120, 3, 2) :: rl_14
def sD0 : Nat → Nat → Nat := ovN sZ0 rl_15
def sP0 : Nat → Nat → Nat := ovN sT0 tl_15
theorem sPD {a k : Nat} (h1 : a ≠ 110) (h2 : a ≠ 109 ∨ k ≠ 1) : sP0 a k = sD0 a k := by
  refine ovN_eq (by decide +kernel) ?_
  unfold sT0 sZ0
  rw [if_neg h1]
  by_cases h : a = 109
  · rw [if_pos h, if_neg (by omega)]
  · rw [if_neg h]
theorem sD0_F : DrF sD0 false := by
  unfold DrF
  decide +kernel
theorem sP0_w : ¬ sP0 116 1 = 0 := by decide +kernel
theorem DrC.ag {s s2 : Nat → Nat → Nat} {I : AI} {d : Nat} (h : DrC s I d) (e : ∀ a k, a ≠ 110 → (a ≠ 109 ∨ k ≠ 1) → s a k = s2 a k) : DrC s2 I d := by
  have r : ∀ a, a ≠ 110 → a ≠ 109 → s a = s2 a := fun a h1 h2 => funext fun k => e a k h1 (Or.inl h2)
  have e13 : s 109 13 = s2 109 13 := e 109 13 (by decide) (Or.inr (by decide))
  unfold DrC nrD at h ⊢
  rw [r 111 (by decide) (by decide), r 112 (by decide) (by decide), r 113 (by decide) (by decide), r 114 (by decide) (by decide), r 115 (by decide) (by decide), r 116 (by decide) (by decide), r 117 (by decide) (by decide), r 118 (by decide) (by decide), r 119 (by decide) (by decide), r 120 (by decide) (by decide), r 121 (by decide) (by decide), e13] at h
  exact h
theorem nrD_ag : nrD sP0 = nrD sD0 := by
  have r : ∀ a, a ≠ 110 → a ≠ 109 → sP0 a = sD0 a := fun a h1 h2 => funext fun k => sPD h1 (Or.inl h2)
  unfold nrD
  rw [r 112 (by decide) (by decide), r 113 (by decide) (by decide), r 114 (by decide) (by decide), r 115 (by decide) (by decide)]
/-- the system stands as the first town has it -/
theorem CR.first {J : AI} (hD : DrC sP0 J 36) (hM : zRw 50 (fun a b => zFar (nrD sP0) (8 * a + b)) J) (h74 : J 74 5 = nI 0 ∧ J 74 6 = nI 0) (h80 : J 80 2 = nI 0) (h93 : J 93 3 = nI 0) (h1 : J 1 1 = nI 0) : CR 36 (sTk sD0) J := by
  rw [nrD_ag] at hM
  refine CR.lay (d := 36) (s := sD0) (f := false) ?_ (hD.ag (fun a k => sPD)) sD0_F hM h74 h80 h93 (fun k => ?_)
  · have e1 : sD0 109 1 = 0 := by decide +kernel
    rw [e1]
    exact ⟨h1, by omega, fun k hk => absurd hk (by omega)⟩
  · have e1 : sD0 124 k = 0 := ovN_no (by decide +kernel) k
    rw [e1]
    omega
theorem RInv.first : RInv (sTk sD0) := by
  have e1 : sD0 109 1 = 0 := by decide +kernel
  refine RInv.lay (f := false) sD0_F (fun k => ?_) (by rw [e1]; omega) (fun k hk => ?_)
  · have e3 : sD0 123 k = 0 := ovN_no (by decide +kernel) k
    have e4 : sD0 124 k = 0 := ovN_no (by decide +kernel) k
    rw [e3, e4]
    omega
  · rw [e1] at hk
    omega
