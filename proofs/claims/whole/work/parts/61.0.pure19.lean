/-! PURE: what the system makes of an item -/
abbrev aOs (s : Nat → Nat → Nat) (a b x : Nat) : Bool := decide (s 112 1 < 12 ∧ a < s 111 1 ∧ b < s 111 1 ∧ ¬ a = b ∧ ¬ nrD s (8 * a + b) < 10000 ∧ 1 ≤ x ∧ x ≤ 20)
abbrev aOg (s : Nat → Nat → Nat) (a b x : Nat) : Bool := decide (s 109 13 < 8 ∧ a < s 111 1 ∧ b < s 111 1 ∧ x < s 111 1)
abbrev aOw (s : Nat → Nat → Nat) (a b x : Nat) : Bool := decide (s 116 1 < 4 ∧ a < 4 ∧ b < s 111 1 ∧ x < s 111 1)
abbrev aOr (a b x : Nat) : Bool := decide (a < 10 ∧ b < 10 ∧ x < 10)
abbrev aOc (a : Nat) : Bool := decide (1 ≤ a ∧ a ≤ 8)
def zAcc (s : Nat → Nat → Nat) (f : Bool) (c a b x : Nat) : Option ((Nat → Nat → Nat) × Bool) :=
  if c = 99 then (if (f && aOc a) = true then some (dC s a, f) else none)
  else if c = 115 then (if aOs s a b x = true then some (dS s a b x, false) else none)
  else if c = 103 then (if aOg s a b x = true then some (dG s a b x, false) else none)
  else if c = 119 then (if aOw s a b x = true then some (dW s a b x, false) else none)
  else if c = 114 then (if aOr a b x = true then some (dR s a b x, false) else none)
  else none
theorem zk1_rk {s : Nat → Nat → Nat} {p lo hi be : Nat} : zk1 s p lo hi be = (zRk (s 110) (s 109 1) p be && decide (lo ≤ zv1 s p ∧ zv1 s p ≤ hi)) := zNok_rk
/-- an item: its numbers, then whether it is taken -/
theorem zItem_acc {s : Nat → Nat → Nat} {f : Bool} {p : Nat} (hO : DrF s f) : zItem s f p = if s 110 p = 99 then (if zRk (s 110) (s 109 1) (p + 1) 59 = true then (zAcc s f 99 (zv1 s (p + 1)) 0 0).map (fun q => (q.1, zn1 s (p + 1), q.2)) else none) else (if (zRk (s 110) (s 109 1) (p + 1) 44 && (zRk (s 110) (s 109 1) (zn1 s (p + 1)) 44 && zRk (s 110) (s 109 1) (zn1 s (zn1 s (p + 1))) 59)) = true then (zAcc s f (s 110 p) (zv1 s (p + 1)) (zv1 s (zn1 s (p + 1))) (zv1 s (zn1 s (zn1 s (p + 1))))).map (fun q => (q.1, zq3 s p, q.2)) else none) := by
  obtain ⟨⟨d1, d2, d3, d4, d5⟩, dS1, dG1, dW1, dR1, dF1⟩ := hO
  unfold zItem zAcc
  by_cases h99 : s 110 p = 99
  · rw [if_pos h99, if_pos h99, if_pos rfl]
    have e : okC s f p = (zRk (s 110) (s 109 1) (p + 1) 59 && (f && aOc (zv1 s (p + 1)))) := by
      unfold okC
      rw [zk1_rk]
      cases f <;> cases zRk (s 110) (s 109 1) (p + 1) 59 <;> rfl
    rw [e]
    cases zRk (s 110) (s 109 1) (p + 1) 59
    · rfl
    · rw [if_pos rfl, Bool.true_and]
      cases (f && aOc (zv1 s (p + 1)))
      · rfl
      · rfl
  · rw [if_neg h99, if_neg h99]
    have lt : ∀ q, decide (0 ≤ q ∧ q ≤ s 111 1 - 1) = decide (q < s 111 1) := fun q => decide_eq_decide.mpr ⟨fun h => by omega, fun h => by omega⟩
    generalize hk1 : zRk (s 110) (s 109 1) (p + 1) 44 = k1
    generalize hk2 : zRk (s 110) (s 109 1) (zn1 s (p + 1)) 44 = k2
    generalize hk3 : zRk (s 110) (s 109 1) (zn1 s (zn1 s (p + 1))) 59 = k3
    by_cases h115 : s 110 p = 115
    · rw [if_pos h115, if_neg h99, if_pos h115]
      have e : okS s p = ((k1 && (k2 && k3)) && aOs s (zv1 s (p + 1)) (zv1 s (zn1 s (p + 1))) (zv1 s (zn1 s (zn1 s (p + 1))))) := by
        unfold okS
        rw [zk1_rk, zk1_rk, zk1_rk, hk1, hk2, hk3]
        by_cases hl : zv1 s (p + 1) < s 111 1 ∧ zv1 s (zn1 s (p + 1)) < s 111 1
        · have hd := zDup_nr (s := s) (a := zv1 s (p + 1)) (b := zv1 s (zn1 s (p + 1))) (by omega) (by omega) (n := s 112 1) (fun k hk => by have := dS1 k hk; omega)
          generalize zDup s (zv1 s (p + 1)) (zv1 s (zn1 s (p + 1))) (s 112 1) = z at hd ⊢
          have hz : z = decide (¬ nrD s (8 * zv1 s (p + 1) + zv1 s (zn1 s (p + 1))) < 10000) := by
            by_cases hq : z = true
            · rw [hq, decide_eq_true (hd.mp hq)]
            · rw [decide_eq_false (fun y => hq (hd.mpr y))]
              cases z
              · rfl
              · exact absurd rfl hq
          rw [hz, lt, lt, decide_eq_true hl.1, decide_eq_true hl.2]
          rw [Bool.eq_iff_iff]
          simp only [Bool.and_eq_true, decide_eq_true_eq, Bool.and_true]
          constructor
          · intro h; exact ⟨⟨h.1.1.1.1.2, h.1.1.1.2, h.1.1.2.1⟩, h.1.1.1.1.1, hl.1, hl.2, h.1.2, h.2, h.1.1.2.2⟩
          · intro h; exact ⟨⟨⟨⟨⟨h.2.1, h.1.1⟩, h.1.2.1⟩, h.1.2.2, h.2.2.2.2.2.2⟩, h.2.2.2.2.1⟩, h.2.2.2.2.2.1⟩
        · rw [Bool.eq_iff_iff]
          simp only [Bool.and_eq_true, decide_eq_true_eq]
          constructor
          · intro h; exact absurd ⟨by have := h.1.1.1.1.2.2; omega, by have := h.1.1.1.2.2; omega⟩ hl
          · intro h; exact absurd ⟨h.2.2.1, h.2.2.2.1⟩ hl
      rw [e]
      cases (k1 && (k2 && k3))
      · rfl
      · rw [if_pos rfl, Bool.true_and]
        cases aOs s (zv1 s (p + 1)) (zv1 s (zn1 s (p + 1))) (zv1 s (zn1 s (zn1 s (p + 1)))) <;> rfl
    · rw [if_neg h115]
      by_cases h103 : s 110 p = 103
      · rw [if_pos h103, if_neg h99, if_neg h115, if_pos h103]
        have e : okG s p = ((k1 && (k2 && k3)) && aOg s (zv1 s (p + 1)) (zv1 s (zn1 s (p + 1))) (zv1 s (zn1 s (zn1 s (p + 1))))) := by
          unfold okG
          rw [zk1_rk, zk1_rk, zk1_rk, hk1, hk2, hk3, lt, lt, lt]
          rw [Bool.eq_iff_iff]
          simp only [Bool.and_eq_true, decide_eq_true_eq]
          constructor
          · intro h; exact ⟨⟨h.1.1.2.1, h.1.2.1, h.2.1⟩, h.1.1.1, h.1.1.2.2, h.1.2.2, h.2.2⟩
          · intro h; exact ⟨⟨⟨h.2.1, h.1.1, h.2.2.1⟩, h.1.2.1, h.2.2.2.1⟩, h.1.2.2, h.2.2.2.2⟩
        rw [e]
        cases (k1 && (k2 && k3))
        · rfl
        · rw [if_pos rfl, Bool.true_and]
          cases aOg s (zv1 s (p + 1)) (zv1 s (zn1 s (p + 1))) (zv1 s (zn1 s (zn1 s (p + 1)))) <;> rfl
      · rw [if_neg h103]
        by_cases h119 : s 110 p = 119
        · rw [if_pos h119, if_neg h99, if_neg h115, if_neg h103, if_pos h119]
          have e : okW s p = ((k1 && (k2 && k3)) && aOw s (zv1 s (p + 1)) (zv1 s (zn1 s (p + 1))) (zv1 s (zn1 s (zn1 s (p + 1))))) := by
            unfold okW
            rw [zk1_rk, zk1_rk, zk1_rk, hk1, hk2, hk3, lt, lt]
            rw [Bool.eq_iff_iff]
            simp only [Bool.and_eq_true, decide_eq_true_eq]
            constructor
            · intro h; exact ⟨⟨h.1.1.2.1, h.1.2.1, h.2.1⟩, h.1.1.1, by have := h.1.1.2.2; omega, h.1.2.2, h.2.2⟩
            · intro h; exact ⟨⟨⟨h.2.1, h.1.1, by have := h.2.2.1; omega⟩, h.1.2.1, h.2.2.2.1⟩, h.1.2.2, h.2.2.2.2⟩
          rw [e]
          cases (k1 && (k2 && k3))
          · rfl
          · rw [if_pos rfl, Bool.true_and]
            cases aOw s (zv1 s (p + 1)) (zv1 s (zn1 s (p + 1))) (zv1 s (zn1 s (zn1 s (p + 1)))) <;> rfl
        · rw [if_neg h119]
          by_cases h114 : s 110 p = 114
          · rw [if_pos h114, if_neg h99, if_neg h115, if_neg h103, if_neg h119, if_pos h114]
            have e : okR s p = ((k1 && (k2 && k3)) && aOr (zv1 s (p + 1)) (zv1 s (zn1 s (p + 1))) (zv1 s (zn1 s (zn1 s (p + 1))))) := by
              unfold okR
              rw [zk1_rk, zk1_rk, zk1_rk, hk1, hk2, hk3]
              rw [Bool.eq_iff_iff]
              simp only [Bool.and_eq_true, decide_eq_true_eq]
              constructor
              · intro h; exact ⟨⟨h.1.1.2.1, h.1.2.1, h.2.1⟩, by have := h.1.1.2.2; omega, by have := h.1.2.2; omega, by have := h.2.2; omega⟩
              · intro h; exact ⟨⟨⟨trivial, h.1.1, by have := h.2.1; omega⟩, h.1.2.1, by have := h.2.2.1; omega⟩, h.1.2.2, by have := h.2.2.2; omega⟩
            rw [e]
            cases (k1 && (k2 && k3))
            · rfl
            · rw [if_pos rfl, Bool.true_and]
              cases aOr (zv1 s (p + 1)) (zv1 s (zn1 s (p + 1))) (zv1 s (zn1 s (zn1 s (p + 1)))) <;> rfl
          · rw [if_neg h114, if_neg h99, if_neg h115, if_neg h103, if_neg h119, if_neg h114]
            cases (k1 && (k2 && k3)) <;> rfl
theorem zb_some {α : Type} {b : Bool} {x : α} : some (zb b) = some (zb (if b = true then some x else none).isSome) := by cases b <;> rfl
/-- the reader and the draft alone are written -/
def zAf (d : Nat) (I J : AI) : Prop := ∀ a, a ≠ 3 → a ≠ 4 → (a < d ∨ d + 31 ≤ a) → J a = I a
theorem DrC.eq {s : Nat → Nat → Nat} {I J : AI} {d : Nat} (h : DrC s I d) (e : ∀ a, d ≤ a → a < d + 31 → J a = I a) : DrC s J d := by
  obtain ⟨h1, h2, h3, h4, h5, h6⟩ := h
  refine ⟨⟨?_, ?_⟩, fun k hk => ?_, fun a b ha hb => ?_, ?_, ?_, ?_⟩
  · rw [e _ (by omega) (by omega)]; exact h1.1
  · rw [e _ (by omega) (by omega)]; exact h1.2
  · rw [e _ (by omega) (by omega), e _ (by omega) (by omega)]; exact h2 k hk
  · rw [e _ (by omega) (by omega)]; exact h3 a b ha hb
  · exact h4.eq (e _ (by omega) (by omega)) (e _ (by omega) (by omega)) (e _ (by omega) (by omega)) (e _ (by omega) (by omega))
  · exact h5.eq (e _ (by omega) (by omega)) (e _ (by omega) (by omega)) (e _ (by omega) (by omega)) (e _ (by omega) (by omega)) (e _ (by omega) (by omega))
  · rw [e _ (by omega) (by omega)]; exact h6
