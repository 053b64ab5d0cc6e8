theorem zb_0 {b : Bool} (h : b = false) : zb b = nI 0 := by rw [h]; rfl
theorem zb_1 {b : Bool} (h : b = true) : zb b = nI 1 := by rw [h]; rfl
/-- a sign at its own aim leads nowhere on -/
theorem zLy_on {s : Nat → Nat → Nat} (hM : RefM s) (hG : ∀ k, k < 64 → 1 ≤ s 123 k) {c a n : Nat} (hc : c < 8) (ha : a < 8) (hn : n < 8) : (!zOnB (s 123) (s 124) c n a) = !(decide (¬ c = a) && zOnB (s 123) (s 124) c n a) := by
  by_cases e : c = a
  · subst e
    have h1 := (hM (8 * c + c) (by omega)).2
    have h2 := (hM (8 * c + n) (by omega)).1
    have h3 : zFar (nrS s none) (8 * c + c) = 0 := by
      unfold zFar
      rw [show (8 * c + c) / 8 = c by omega, show (8 * c + c) % 8 = c by omega]
      exact zD_self 8
    rw [decide_eq_false (fun z => z rfl), Bool.false_and]
    have h4 : zOnB (s 123) (s 124) c n c = false := decide_eq_false (fun z => by
      have z3 := z.2.2
      rw [h1, h3] at z3
      have h5 := hG (8 * c + n) (by omega)
      omega)
    rw [h4]
  · rw [decide_eq_true e, Bool.true_and]
