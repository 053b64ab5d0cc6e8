/-! PURE: walkers, text, what was seen, of the system -/
def CWk (m : Nat) (kd fm am to : Nat → Nat) (I : AI) (w : Nat) : Prop := I w 4 = nI m ∧ m ≤ 4 ∧ ∀ i, i < m → (I (w + 1) i = nI (kd i) ∧ I (w + 2) i = nI (fm i) ∧ I (w + 3) i = nI (am i) ∧ I (w + 4) i = nI (to i)) ∧ kd i < 4 ∧ fm i < 8 ∧ am i < 8 ∧ to i < 8
theorem CWk.eq {m : Nat} {kd fm am to : Nat → Nat} {I J : AI} {w : Nat} (h : CWk m kd fm am to I w) (h0 : J w = I w) (h1 : J (w + 1) = I (w + 1)) (h2 : J (w + 2) = I (w + 2)) (h3 : J (w + 3) = I (w + 3)) (h4 : J (w + 4) = I (w + 4)) : CWk m kd fm am to J w := ⟨by rw [h0]; exact h.1, h.2.1, fun i hi => by rw [h1, h2, h3, h4]; exact h.2.2 i hi⟩
def CTx (tx : Nat → Nat) (tn : Nat) (I : AI) : Prop := I 1 1 = nI tn ∧ tn ≤ 200 ∧ ∀ k, k < tn → I 2 k = nI (tx k) ∧ tx k ≤ 126
theorem char_all : (List.range 127).all (fun q => decide (vp_nar .char ((nI q).toUInt32 % 65536).toInt32 = nI q)) = true := by decide +kernel
theorem char_b (q : Nat) (h : q ≤ 126) : vp_nar .char ((nI q).toUInt32 % 65536).toInt32 = nI q := by
  have := List.all_eq_true.mp char_all q (List.mem_range.mpr (by omega))
  exact of_decide_eq_true this
/-- what was seen, as the system holds it -/
def CSe (s : Nat → Nat → Nat) (I : AI) : Prop := I 93 3 = nI (s 109 33) ∧ s 109 33 ≤ 8 ∧ ∀ k, k < s 109 33 → (I 94 k = nI (s 128 k) ∧ I 95 k = nI (s 129 k) ∧ I 96 k = nI (s 130 k)) ∧ s 128 k < 8 ∧ s 129 k < 8 ∧ s 130 k ≤ 30
/-- a trip as it lies there -/
def zTr (T : ZT) (I : AI) : Prop := I 67 2 = nI T.1 ∧ T.1 ≤ 30 ∧ (∀ k, k ≤ T.1 → I 68 k = nI (T.2.2.2.2.2.2.1 k)) ∧ (∀ k, k < T.1 → I 69 k = zb (T.2.2.2.2.2.2.2 k)) ∧ T.2.2.2.2.2.2.1 T.1 = T.2.2.2.2.1 ∧ ∀ k, T.2.2.2.2.2.2.1 k < 8
theorem zAt_min {T : ZT} (h : T.2.2.2.2.2.2.1 T.1 = T.2.2.2.2.1) (k : Nat) : T.2.2.2.2.2.2.1 (max 0 (min k T.1)) = zAt T k := by
  unfold zAt
  by_cases e : k ≤ T.1
  · rw [if_pos e, Nat.min_eq_left e, Nat.zero_max]
  · rw [if_neg e, Nat.min_eq_right (by omega), Nat.zero_max, h]
theorem zAt_le {T : ZT} {k : Nat} (h : k ≤ T.1) : zAt T k = T.2.2.2.2.2.2.1 k := if_pos h

