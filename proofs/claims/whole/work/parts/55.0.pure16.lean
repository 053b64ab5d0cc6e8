/-! PURE: distances again: the system measures by the corners that there are, the reference by eight -/
/-- streets as near says: at most 20 minutes, none at corners that there aren't -/
def zNg (nc : Nat) (nr : Nat → Nat) : Prop := (∀ k, nr k ≤ 10000) ∧ (∀ k, nr k < 10000 → nr k ≤ 20) ∧ ∀ a b, a < 8 → b < 8 → (nc ≤ a ∨ nc ≤ b) → nr (8 * a + b) = 10000
theorem zD_fin {nr : Nat → Nat} (h : ∀ k, nr k < 10000 → nr k ≤ 20) {a b : Nat} : ∀ m, zD nr m a b < 10000 → zD nr m a b ≤ 20 * 2 ^ m
  | 0, hl => by
    rw [zD_0] at hl ⊢
    split
    · omega
    · rename_i e
      rw [if_neg e] at hl
      have := h _ hl
      omega
  | m + 1, hl => by
    rw [zD_s] at hl ⊢
    have h1 := zD_fin h (a := a) (b := b) m
    have h2 := zD_fin h (a := a) (b := m) m
    have h3 := zD_fin h (a := m) (b := b) m
    have e : 2 ^ (m + 1) = 2 * 2 ^ m := by rw [Nat.pow_succ]; omega
    rw [e]
    generalize 2 ^ m = q at *
    generalize zD nr m a b = x at *
    generalize zD nr m a m = y at *
    generalize zD nr m m b = z at *
    by_cases hx : x ≤ y + z
    · rw [Nat.min_eq_left hx] at hl ⊢
      have := h1 hl
      omega
    · rw [Nat.min_eq_right (by omega)] at hl ⊢
      have := h2 (by omega)
      have := h3 (by omega)
      omega
theorem zD_via {nr : Nat → Nat} (h : ∀ k, nr k < 10000 → nr k ≤ 20) {m a b : Nat} (hm : m ≤ 7) (h1 : zD nr m a m < 10000) (h2 : zD nr m m b < 10000) : zD nr m a m + zD nr m m b < 10000 := by
  have h3 := zD_fin h m h1
  have h4 := zD_fin h m h2
  have h5 : 2 ^ m ≤ 2 ^ 7 := Nat.pow_le_pow_right (by omega) hm
  omega
theorem zD_skip {nr : Nat → Nat} (h : ∀ k, nr k ≤ 10000) {m a b : Nat} (h1 : ¬ zD nr m a m < 10000 ∨ ¬ zD nr m m b < 10000) : zD nr (m + 1) a b = zD nr m a b := by
  rw [zD_s]
  have h2 := zD_le h (a := a) (b := b) m
  exact Nat.min_eq_left (by omega)
theorem zD_lt {nr : Nat → Nat} (h : ∀ k, nr k < 10000 → nr k ≤ 20) {m a b : Nat} (hm : m ≤ 7) : zD nr (m + 1) a b < 10000 ↔ zD nr m a b < 10000 ∨ (zD nr m a m < 10000 ∧ zD nr m m b < 10000) := by
  rw [zD_s]
  have h1 := zD_via h (m := m) (a := a) (b := b) hm
  generalize zD nr m a b = x at *
  generalize zD nr m a m = y at *
  generalize zD nr m m b = z at *
  by_cases hx : x ≤ y + z
  · rw [Nat.min_eq_left hx]
    constructor
    · intro q; exact Or.inl q
    · intro q
      rcases q with q | q
      · exact q
      · have := h1 q.1 q.2; omega
  · rw [Nat.min_eq_right (by omega)]
    constructor
    · intro q; exact Or.inr ⟨by omega, by omega⟩
    · intro q
      rcases q with q | q
      · omega
      · exact h1 q.1 q.2
/-- none leads to or from a corner that there isn't -/
theorem zD_out {nc : Nat} {nr : Nat → Nat} (h : zNg nc nr) {a b : Nat} (ha : a < 8) (hb : b < 8) (hab : ¬ a = b) (ho : nc ≤ a ∨ nc ≤ b) : ∀ m, m ≤ 8 → zD nr m a b = 10000
  | 0, _ => by rw [zD_0, if_neg hab]; exact h.2.2 a b ha hb ho
  | m + 1, hm => by
    have ih := zD_out h ha hb hab ho m (by omega)
    have hle := zD_le h.1 (a := a) (b := b) (m + 1)
    rw [zD_s, ih]
    by_cases e1 : a = m
    · subst e1
      rw [zD_self, ih]
      exact Nat.min_eq_left (by omega)
    · by_cases e2 : m = b
      · subst e2
        rw [ih]
        exact Nat.min_eq_left (by omega)
      · rcases ho with ho | ho
        · rw [zD_out h ha (by omega : m < 8) e1 (Or.inl ho) m (by omega)]
          exact Nat.min_eq_left (by omega)
        · rw [zD_out h (by omega : m < 8) hb e2 (Or.inr ho) m (by omega)]
          exact Nat.min_eq_left (by omega)
theorem zD_keep {nc : Nat} {nr : Nat → Nat} (h : zNg nc nr) {m a b : Nat} (ha : a < 8) (hb : b < 8) (hm : m < 8) (ho : nc ≤ a ∨ nc ≤ b) : zD nr (m + 1) a b = zD nr m a b := by
  by_cases e : a = b
  · subst e; rw [zD_self, zD_self]
  · rw [zD_out h ha hb e ho m (by omega), zD_out h ha hb e ho (m + 1) (by omega)]
theorem zD_more {nc : Nat} {nr : Nat → Nat} (h : zNg nc nr) {a b : Nat} (ha : a < 8) (hb : b < 8) : ∀ m, nc ≤ m → m ≤ 8 → zD nr m a b = zD nr nc a b := by
  intro m
  induction m with
  | zero => intro h1 _; rw [show nc = 0 by omega]
  | succ m ih =>
    intro h1 h2
    by_cases e : nc = m + 1
    · rw [e]
    · have ih2 := ih (by omega) (by omega)
      rw [← ih2]
      by_cases e2 : a = m
      · subst e2; exact zD_l
      · exact zD_skip h.1 (Or.inl (by rw [zD_out h ha (by omega : m < 8) e2 (Or.inr (by omega)) m (by omega)]; omega))
theorem zFar_nc {nc : Nat} {nr : Nat → Nat} (h : zNg nc nr) (hnc : nc ≤ 8) {a b : Nat} (ha : a < 8) (hb : b < 8) : zFar nr (8 * a + b) = zD nr nc a b := by
  unfold zFar
  rw [show (8 * a + b) / 8 = a by omega, show (8 * a + b) % 8 = b by omega]
  exact zD_more h ha hb 8 hnc (by omega)
theorem zD_trans {nr : Nat → Nat} (h : ∀ k, nr k < 10000 → nr k ≤ 20) : ∀ m, m ≤ 8 → ∀ a x b, x < m → zD nr m a x < 10000 → zD nr m x b < 10000 → zD nr m a b < 10000
  | 0, _, a, x, b, hx, _, _ => by omega
  | m + 1, hm, a, x, b, hx, h1, h2 => by
    have ih := zD_trans h m (by omega)
    by_cases e : x = m
    · subst e
      rw [zD_r] at h1
      rw [zD_l] at h2
      exact (zD_lt h (by omega)).mpr (Or.inr ⟨h1, h2⟩)
    · rw [zD_lt h (by omega)] at h1 h2 ⊢
      rcases h1 with h1 | h1 <;> rcases h2 with h2 | h2
      · exact Or.inl (ih a x b (by omega) h1 h2)
      · exact Or.inr ⟨ih a x m (by omega) h1 h2.1, h2.2⟩
      · exact Or.inr ⟨h1.1, ih m x b (by omega) h1.2 h2⟩
      · exact Or.inr ⟨h1.1, h2.2⟩
theorem zD_mono {nr : Nat → Nat} {a b : Nat} : ∀ m, zD nr m a b ≤ zD nr 0 a b
  | 0 => Nat.le_refl _
  | m + 1 => by rw [zD_s]; exact Nat.le_trans (Nat.min_le_left _ _) (zD_mono m)
/-- who gets on by a street still gets there -/
theorem zFar_on {nc : Nat} {nr : Nat → Nat} (h : zNg nc nr) (hsym : ∀ a b, a < 8 → b < 8 → nr (8 * a + b) = nr (8 * b + a)) {a b c : Nat} (ha : a < 8) (hb : b < 8) (hc : c < 8) (h1 : nr (8 * a + b) < 10000) (h2 : zFar nr (8 * a + c) < 10000) : zFar nr (8 * b + c) < 10000 := by
  unfold zFar at h2 ⊢
  rw [show (8 * a + c) / 8 = a by omega, show (8 * a + c) % 8 = c by omega] at h2
  rw [show (8 * b + c) / 8 = b by omega, show (8 * b + c) % 8 = c by omega]
  refine zD_trans h.2.1 8 (by omega) b a c ha ?_ h2
  refine Nat.lt_of_le_of_lt (zD_mono 8) ?_
  rw [zD_0]
  split
  · omega
  · rw [hsym b a hb ha]; exact h1
theorem zNr_ng {nc : Nat} {sa sb sl : Nat → Nat} {w : Option Nat} : ∀ {n : Nat}, (∀ k, k < n → sa k < nc ∧ sb k < nc ∧ 1 ≤ sl k ∧ sl k ≤ 20) → nc ≤ 8 → zNg nc (zNr sa sb sl w n)
  | 0, _, _ => ⟨fun _ => Nat.le_refl _, fun k hk => by have : (10000 : Nat) < 10000 := hk; omega, fun _ _ _ _ _ => rfl⟩
  | n + 1, h, hnc => by
    have ih := zNr_ng (sa := sa) (sb := sb) (sl := sl) (w := w) (n := n) (fun k hk => h k (by omega)) hnc
    have h2 := h n (by omega)
    unfold zNr
    split
    · exact ih
    · refine ⟨fun k => ?_, fun k => ?_, fun a b ha hb ho => ?_⟩
      · unfold va_up
        split
        · omega
        · split
          · omega
          · exact ih.1 k
      · unfold va_up
        split
        · omega
        · split
          · omega
          · exact ih.2.1 k
      · rw [va_up_n _ _ (by omega), va_up_n _ _ (by omega)]
        exact ih.2.2 a b ha hb ho
theorem zNr_sym {sa sb sl : Nat → Nat} {w : Option Nat} : ∀ {n : Nat}, (∀ k, k < n → sa k < 8 ∧ sb k < 8) → ∀ a b, a < 8 → b < 8 → zNr sa sb sl w n (8 * a + b) = zNr sa sb sl w n (8 * b + a)
  | 0, _, _, _, _, _ => rfl
  | n + 1, h, a, b, ha, hb => by
    have ih := zNr_sym (sa := sa) (sb := sb) (sl := sl) (w := w) (n := n) (fun k hk => h k (by omega)) a b ha hb
    have h2 := h n (by omega)
    unfold zNr
    split
    · exact ih
    · by_cases e1 : sa n = a ∧ sb n = b
      · rw [e1.1, e1.2]
        rw [va_up_s]
        by_cases e3 : 8 * a + b = 8 * b + a
        · rw [e3, va_up_s]
        · rw [va_up_n _ _ e3, va_up_s]
      · by_cases e2 : sa n = b ∧ sb n = a
        · rw [e2.1, e2.2, va_up_s]
          by_cases e3 : 8 * b + a = 8 * a + b
          · rw [e3, va_up_s]
          · rw [va_up_n _ _ e3, va_up_s]
        · rw [va_up_n _ _ (by omega), va_up_n _ _ (by omega), va_up_n _ _ (by omega), va_up_n _ _ (by omega)]
          exact ih
theorem zNr_pos {sa sb sl : Nat → Nat} {w : Option Nat} : ∀ {n : Nat}, (∀ k, k < n → 1 ≤ sl k) → ∀ k, 1 ≤ zNr sa sb sl w n k
  | 0, _, k => by show 1 ≤ 10000; omega
  | n + 1, h, k => by
    have ih := zNr_pos (sa := sa) (sb := sb) (sl := sl) (w := w) (n := n) (fun k hk => h k (by omega)) k
    have h2 := h n (by omega)
    unfold zNr
    split
    · exact ih
    · unfold va_up
      split
      · omega
      · split
        · omega
        · exact ih
theorem zds_lt {v : Nat} (h : v < 10000) : zds v = nI v := if_pos h
theorem zds_ge {v : Nat} (h : ¬ v < 10000) : zds v = -4 := if_neg h
