/-! PURE: picks, signs put in and taken out -/
/-- the pick alone is written -/
def zPf (I J : AI) : Prop := ∀ a, a ≠ 97 → J a = I a
def zOfL (pk : Option (Nat × Int32)) (q : Nat) (v : Int32) : Option (Nat × Int32) := match pk with
  | none => some (q, v)
  | some (k, w) => if v < w then some (q, v) else some (k, w)
def zOfM (pk : Option (Nat × Int32)) (q : Nat) (v : Int32) : Option (Nat × Int32) := match pk with
  | none => some (q, v)
  | some (k, w) => if w < v then some (q, v) else some (k, w)
theorem zPkL_s {f : Nat → Int32} {n : Nat} : zPkL f (n + 1) = zOfL (zPkL f n) n (f n) := rfl
theorem zPkM_s {f : Nat → Int32} {n : Nat} : zPkM f (n + 1) = zOfM (zPkM f n) n (f n) := rfl
/-- how the pick stands -/
def zPic (I : AI) (pk : Option (Nat × Int32)) : Prop := I 97 0 = zp1 pk ∧ I 97 1 = zp2 pk
theorem zPf.rf {I : AI} : zPf I I := fun _ _ => rfl
theorem zPf.u {I J : AI} (h : zPf I J) {k : Nat} {x : Int32} : zPf I (zu J 97 k x) := fun b hb => by rw [zu_o _ _ hb]; exact h b hb
/-- one moved -/
def zMv (I : AI) (g f t : Nat) : AI := zu (zu (zu I (g + 1) t (I (g + 1) f)) (g + 2) t (I (g + 2) f)) (g + 3) t (I (g + 3) f)
theorem zMv_o {I : AI} {g f t a : Nat} (h1 : a ≠ g + 1) (h2 : a ≠ g + 2) (h3 : a ≠ g + 3) : zMv I g f t a = I a := by
  unfold zMv
  rw [zu_o _ _ h3, zu_o _ _ h2, zu_o _ _ h1]
theorem zMv_e {I : AI} {g f t e j : Nat} (h1 : 1 ≤ e) (h2 : e ≤ 3) : zMv I g f t (g + e) j = if j = t then I (g + e) f else I (g + e) j := by
  have h3 : e = 1 ∨ e = 2 ∨ e = 3 := by omega
  by_cases hj : j = t
  · subst hj
    rw [if_pos rfl]
    unfold zMv
    rcases h3 with rfl | rfl | rfl
    · rw [zu_o _ _ (by omega), zu_o _ _ (by omega), zu_s]
    · rw [zu_o _ _ (by omega), zu_s]
    · rw [zu_s]
  · rw [if_neg hj]
    unfold zMv
    rcases h3 with rfl | rfl | rfl
    · rw [zu_o _ _ (by omega), zu_o _ _ (by omega), zu_n _ _ hj]
    · rw [zu_o _ _ (by omega), zu_n _ _ hj, zu_o _ _ (by omega)]
    · rw [zu_n _ _ hj, zu_o _ _ (by omega), zu_o _ _ (by omega)]
/-- signs from b on moved up by one, below m -/
def zShU (I J : AI) (g b m : Nat) : Prop := (∀ a, a ≠ g + 1 → a ≠ g + 2 → a ≠ g + 3 → J a = I a) ∧ ∀ e j, 1 ≤ e → e ≤ 3 → J (g + e) j = if b < j ∧ j ≤ m then I (g + e) (j - 1) else I (g + e) j
theorem zShU.rf {I : AI} {g m : Nat} : zShU I I g m m := ⟨fun _ _ _ _ => rfl, fun e j _ _ => by rw [if_neg (by omega)]⟩
theorem zShU.s {I J : AI} {g b m : Nat} (h : zShU I J g (b + 1) m) (hb : b + 1 ≤ m) : zShU I (zMv J g b (b + 1)) g b m := by
  refine ⟨fun a h1 h2 h3 => (zMv_o h1 h2 h3).trans (h.1 a h1 h2 h3), fun e j h1 h2 => ?_⟩
  rw [zMv_e h1 h2]
  by_cases hj : j = b + 1
  · subst hj
    rw [if_pos rfl, if_pos (by omega), h.2 e b h1 h2, if_neg (by omega)]
    rfl
  · rw [if_neg hj, h.2 e j h1 h2]
    by_cases h3 : b + 1 < j ∧ j ≤ m
    · rw [if_pos h3, if_pos (by omega)]
    · rw [if_neg h3, if_neg (by omega)]
/-- signs behind k moved down by one, those below b -/
def zShD (I J : AI) (g k b : Nat) : Prop := (∀ a, a ≠ g + 1 → a ≠ g + 2 → a ≠ g + 3 → J a = I a) ∧ ∀ e j, 1 ≤ e → e ≤ 3 → J (g + e) j = if k ≤ j ∧ j + 1 < b then I (g + e) (j + 1) else I (g + e) j
theorem zShD.rf {I : AI} {g k : Nat} : zShD I I g k (k + 1) := ⟨fun _ _ _ _ => rfl, fun e j _ _ => by rw [if_neg (by omega)]⟩
theorem zShD.s {I J : AI} {g k b : Nat} (h : zShD I J g k (b + 1)) (hb : k ≤ b) : zShD I (zMv J g (b + 1) b) g k (b + 2) := by
  refine ⟨fun a h1 h2 h3 => (zMv_o h1 h2 h3).trans (h.1 a h1 h2 h3), fun e j h1 h2 => ?_⟩
  rw [zMv_e h1 h2]
  by_cases hj : j = b
  · subst hj
    rw [if_pos rfl, if_pos (by omega), h.2 e (j + 1) h1 h2, if_neg (by omega)]
  · rw [if_neg hj, h.2 e j h1 h2]
    by_cases h3 : k ≤ j ∧ j + 1 < b + 1
    · rw [if_pos h3, if_pos (by omega)]
    · rw [if_neg h3, if_neg (by omega)]
def insN (f : Nat → Nat) (k x : Nat) : Nat → Nat := fun j => if j < k then f j else if j = k then x else f (j - 1)
def delN (f : Nat → Nat) (k : Nat) : Nat → Nat := fun j => if j < k then f j else f (j + 1)
/-- the signs at g alone are written -/
def zGf (g : Nat) (I J : AI) : Prop := ∀ a, a ≠ g → a ≠ g + 1 → a ≠ g + 2 → a ≠ g + 3 → J a = I a
theorem zGf.u {g : Nat} {I J : AI} (h : zGf g I J) {a k : Nat} {x : Int32} (ha : a = g ∨ a = g + 1 ∨ a = g + 2 ∨ a = g + 3) : zGf g I (zu J a k x) := fun b h1 h2 h3 h4 => by rw [zu_o _ _ (by omega)]; exact h b h1 h2 h3 h4
theorem zShU.ins {I J : AI} {g k m c a n : Nat} {gc gt gn : Nat → Nat} (hS : CSg m gc gt gn I g) (h : zShU I J g k m) (hk : k ≤ m) (hm : m ≤ 8) (hc : c < 8) (ha : a < 8) (hn : n < 8) : CSg (m + 1) (insN gc k c) (insN gt k a) (insN gn k n) (zu (zu (zu (zu J (g + 1) k (nI c)) (g + 2) k (nI a)) (g + 3) k (nI n)) g 3 (nI (m + 1))) g := by
  refine ⟨zu_s _ _ _ _, by omega, fun j hj => ?_⟩
  unfold insN
  rw [zu_o _ _ (show g + 1 ≠ g by omega), zu_o _ _ (show g + 2 ≠ g by omega), zu_o _ _ (show g + 3 ≠ g by omega), zu_o _ _ (show g + 1 ≠ g + 3 by omega), zu_o _ _ (show g + 1 ≠ g + 2 by omega), zu_o _ _ (show g + 2 ≠ g + 3 by omega)]
  by_cases e : j = k
  · subst e
    rw [zu_s, zu_s, zu_s]
    simp only [Nat.lt_irrefl, if_false, if_true]
    exact ⟨⟨trivial, trivial, trivial⟩, hc, ha, hn⟩
  · rw [zu_n _ _ e, zu_n _ _ e, zu_n _ _ e, zu_o _ _ (show g + 2 ≠ g + 1 by omega), zu_o _ _ (show g + 3 ≠ g + 2 by omega), zu_o _ _ (show g + 3 ≠ g + 1 by omega), h.2 1 j (by omega) (by omega), h.2 2 j (by omega) (by omega), h.2 3 j (by omega) (by omega)]
    by_cases e2 : j < k
    · simp only [e2, if_true]
      rw [if_neg (by omega), if_neg (by omega), if_neg (by omega)]
      exact hS.2.2 j (by omega)
    · simp only [e2, e, if_false]
      rw [if_pos (by omega), if_pos (by omega), if_pos (by omega)]
      exact hS.2.2 (j - 1) (by omega)
theorem zShD.del {I J : AI} {g k m : Nat} {gc gt gn : Nat → Nat} (hS : CSg m gc gt gn I g) (h : zShD I J g k m) (hk : k < m) : CSg (m - 1) (delN gc k) (delN gt k) (delN gn k) (zu J g 3 (nI (m - 1))) g := by
  have hm := hS.2.1
  refine ⟨zu_s _ _ _ _, by omega, fun j hj => ?_⟩
  unfold delN
  rw [zu_o _ _ (show g + 1 ≠ g by omega), zu_o _ _ (show g + 2 ≠ g by omega), zu_o _ _ (show g + 3 ≠ g by omega), h.2 1 j (by omega) (by omega), h.2 2 j (by omega) (by omega), h.2 3 j (by omega) (by omega)]
  by_cases e2 : j < k
  · simp only [e2, if_true]
    rw [if_neg (by omega), if_neg (by omega), if_neg (by omega)]
    exact hS.2.2 j (by omega)
  · simp only [e2, if_false]
    rw [if_pos (by omega), if_pos (by omega), if_pos (by omega)]
    exact hS.2.2 (j + 1) (by omega)
theorem va_cpy_i {f g : Nat → Int32} {n j : Nat} (h : j < n) : va_cpy f g 0 0 n j = f j := by
  unfold va_cpy
  rw [if_pos (by omega)]
  congr 1
  omega
theorem zGf.v {g : Nat} {I J : AI} (h : zGf g I J) {a : Nat} {x : Nat → Int32} (ha : a = g ∨ a = g + 1 ∨ a = g + 2 ∨ a = g + 3) : zGf g I (va_up J a x) := fun b h1 h2 h3 h4 => by rw [va_up_n _ _ (by omega)]; exact h b h1 h2 h3 h4
theorem zGf.rf {g : Nat} {I : AI} : zGf g I I := fun _ _ _ _ _ => rfl
