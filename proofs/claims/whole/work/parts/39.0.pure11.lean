/-! PURE: the whole text -/
def zPar : Nat → (Nat → Nat → Nat) → Bool → Nat → Nat ⊕ (Nat → Nat → Nat)
  | 0, s, _, _ => .inr s
  | n + 1, s, f, p => if p < s 109 1 then (match zItem s f p with
    | none => .inl p
    | some q => zPar n q.1 q.2.2 q.2.1) else .inr s
def sIni (s : Nat → Nat → Nat) : Nat → Nat → Nat := zuN (zuN (zuN (zuN (zuN (zuN (zuN s 111 1 4) 112 1 0) 116 1 0) 109 13 0) 120 3 2) 120 4 3) 120 5 1
/-- how a draft stands while all is so: streets, signs, walkers of corners that there are -/
def DrF (s : Nat → Nat → Nat) (f : Bool) : Prop := (1 ≤ s 111 1 ∧ s 111 1 ≤ 8 ∧ s 112 1 ≤ 12 ∧ s 109 13 ≤ 8 ∧ s 116 1 ≤ 4) ∧ (∀ k, k < s 112 1 → s 113 (12 + k) < s 111 1 ∧ s 114 (12 + k) < s 111 1 ∧ ¬ s 113 (12 + k) = s 114 (12 + k) ∧ 1 ≤ s 115 (12 + k) ∧ s 115 (12 + k) ≤ 20 ∧ zDup s (s 113 (12 + k)) (s 114 (12 + k)) k = true) ∧ (∀ k, k < 3 * s 109 13 → s 121 k < s 111 1) ∧ (∀ i, i < s 116 1 → s 117 (4 + i) < 4 ∧ s 118 (4 + i) < s 111 1 ∧ s 119 (4 + i) < s 111 1) ∧ (∀ k, k < 3 → s 120 (3 + k) ≤ 9) ∧ (f = true → s 112 1 = 0 ∧ s 109 13 = 0 ∧ s 116 1 = 0)
theorem DrF.ok {s : Nat → Nat → Nat} {f : Bool} (h : DrF s f) : DrOk s := ⟨h.1.1, h.1.2.1, h.1.2.2.1, h.1.2.2.2.1, h.1.2.2.2.2, fun k hk => ⟨by have := (h.2.1 k hk).1; have := h.1.2.1; omega, by have := (h.2.1 k hk).2.1; have := h.1.2.1; omega⟩⟩
theorem sIni_ok (s : Nat → Nat → Nat) : DrF (sIni s) true := by
  refine ⟨⟨by show 1 ≤ 4; omega, by show 4 ≤ 8; omega, by show 0 ≤ 12; omega, by show 0 ≤ 8; omega, by show 0 ≤ 4; omega⟩, fun k hk => ?_, fun k hk => ?_, fun i hi => ?_, fun k hk => ?_, fun _ => ⟨rfl, rfl, rfl⟩⟩
  · exact absurd (show k < 0 from hk) (by omega)
  · exact absurd (show k < 3 * 0 from hk) (by omega)
  · exact absurd (show i < 0 from hi) (by omega)
  · have h3 : k = 0 ∨ k = 1 ∨ k = 2 := by omega
    rcases h3 with rfl | rfl | rfl
    · show 2 ≤ 9; omega
    · show 3 ≤ 9; omega
    · show 1 ≤ 9; omega
theorem zDup_congr {s s2 : Nat → Nat → Nat} {a b : Nat} : ∀ {k : Nat}, (∀ j, j < k → s2 113 (12 + j) = s 113 (12 + j) ∧ s2 114 (12 + j) = s 114 (12 + j)) → zDup s2 a b k = zDup s a b k
  | 0, _ => rfl
  | k + 1, h => by
    unfold zDup
    rw [zDup_congr (fun j hj => h j (by omega)), (h k (by omega)).1, (h k (by omega)).2]
theorem zNok_in {tx : Nat → Nat} {tn p lo hi be : Nat} (h : zNok tx tn p lo hi be = true) : lo ≤ (zNum tx tn p).2 ∧ (zNum tx tn p).2 ≤ hi := by
  unfold zNok at h
  simp only [Bool.and_eq_true, decide_eq_true_eq] at h
  exact h.2.1
theorem zItem_ok {s : Nat → Nat → Nat} {f : Bool} {p : Nat} {q : (Nat → Nat → Nat) × Nat × Bool} (hD : DrF s f) (h : zItem s f p = some q) : DrF q.1 q.2.2 ∧ (p < q.2.1 ∧ q.2.1 ≤ p + 10) ∧ Scr zDr s q.1 := by
  have hv1 := zv1_le s (p + 1)
  have hv2 := zv1_le s (zn1 s (p + 1))
  have hv3 := zv1_le s (zn1 s (zn1 s (p + 1)))
  obtain ⟨⟨d1, d2, d3, d4, d5⟩, dS1, dG1, dW1, dR1, dF1⟩ := hD
  unfold zItem at h
  by_cases h99 : s 110 p = 99
  · rw [if_pos h99] at h
    by_cases ok : okC s f p = true
    · rw [if_pos ok] at h
      cases h
      unfold okC at ok
      simp only [Bool.and_eq_true] at ok
      obtain ⟨hf, ok⟩ := ok
      have hn : 1 ≤ zv1 s (p + 1) ∧ zv1 s (p + 1) ≤ 8 := zNok_in ok
      obtain ⟨e1, e2, e3⟩ := dF1 hf
      refine ⟨⟨⟨hn.1, hn.2, d3, d4, d5⟩, fun k hk => ?_, fun k hk => ?_, fun i hi => ?_, dR1, fun _ => ⟨e1, e2, e3⟩⟩, ⟨by simp only []; omega, by simp only []; omega⟩, Scr.rf.u rfl⟩
      · have hk' : k < s 112 1 := hk; omega
      · have hk' : k < 3 * s 109 13 := hk; omega
      · have hi' : i < s 116 1 := hi; omega
    · rw [if_neg ok] at h; cases h
  · rw [if_neg h99] at h
    by_cases h115 : s 110 p = 115
    · rw [if_pos h115] at h
      by_cases ok : okS s p = true
      · rw [if_pos ok] at h
        cases h
        unfold okS at ok
        simp only [Bool.and_eq_true, decide_eq_true_eq] at ok
        obtain ⟨⟨⟨⟨⟨o1, o2⟩, o3⟩, o4⟩, o5⟩, o6⟩ := ok
        have n1 : 0 ≤ zv1 s (p + 1) ∧ zv1 s (p + 1) ≤ s 111 1 - 1 := zNok_in o2
        have n2 : 0 ≤ zv1 s (zn1 s (p + 1)) ∧ zv1 s (zn1 s (p + 1)) ≤ s 111 1 - 1 := zNok_in o3
        have n3 : 1 ≤ zv1 s (zn1 s (zn1 s (p + 1))) ∧ zv1 s (zn1 s (zn1 s (p + 1))) ≤ 20 := zNok_in o4
        refine ⟨⟨⟨d1, d2, by show s 112 1 + 1 ≤ 12; omega, d4, d5⟩, fun k hk => ?_, dG1, dW1, dR1, fun z => by cases z⟩, ⟨by show p < zn1 s (zn1 s (zn1 s (p + 1))); omega, by show zn1 s (zn1 s (zn1 s (p + 1))) ≤ p + 10; omega⟩, (((Scr.rf.u (by simp [zDr])).u (by simp [zDr])).u (by simp [zDr])).u rfl⟩
        have hk' : k < s 112 1 + 1 := hk
        have r13 : ∀ j, dS s (zv1 s (p + 1)) (zv1 s (zn1 s (p + 1))) (zv1 s (zn1 s (zn1 s (p + 1)))) 113 j = va_up (s 113) (12 + s 112 1) (zv1 s (p + 1)) j := fun j => rfl
        have r14 : ∀ j, dS s (zv1 s (p + 1)) (zv1 s (zn1 s (p + 1))) (zv1 s (zn1 s (zn1 s (p + 1)))) 114 j = va_up (s 114) (12 + s 112 1) (zv1 s (zn1 s (p + 1))) j := fun j => rfl
        have r15 : ∀ j, dS s (zv1 s (p + 1)) (zv1 s (zn1 s (p + 1))) (zv1 s (zn1 s (zn1 s (p + 1)))) 115 j = va_up (s 115) (12 + s 112 1) (zv1 s (zn1 s (zn1 s (p + 1)))) j := fun j => rfl
        have hdup : ∀ a b k, k ≤ s 112 1 → zDup (dS s (zv1 s (p + 1)) (zv1 s (zn1 s (p + 1))) (zv1 s (zn1 s (zn1 s (p + 1))))) a b k = zDup s a b k := fun a b k hk2 => zDup_congr (fun j hj => ⟨by rw [r13, va_up_n _ _ (by omega)], by rw [r14, va_up_n _ _ (by omega)]⟩)
        show dS s (zv1 s (p + 1)) (zv1 s (zn1 s (p + 1))) (zv1 s (zn1 s (zn1 s (p + 1)))) 113 (12 + k) < s 111 1 ∧ dS s (zv1 s (p + 1)) (zv1 s (zn1 s (p + 1))) (zv1 s (zn1 s (zn1 s (p + 1)))) 114 (12 + k) < s 111 1 ∧ ¬ dS s (zv1 s (p + 1)) (zv1 s (zn1 s (p + 1))) (zv1 s (zn1 s (zn1 s (p + 1)))) 113 (12 + k) = dS s (zv1 s (p + 1)) (zv1 s (zn1 s (p + 1))) (zv1 s (zn1 s (zn1 s (p + 1)))) 114 (12 + k) ∧ 1 ≤ dS s (zv1 s (p + 1)) (zv1 s (zn1 s (p + 1))) (zv1 s (zn1 s (zn1 s (p + 1)))) 115 (12 + k) ∧ dS s (zv1 s (p + 1)) (zv1 s (zn1 s (p + 1))) (zv1 s (zn1 s (zn1 s (p + 1)))) 115 (12 + k) ≤ 20 ∧ zDup (dS s (zv1 s (p + 1)) (zv1 s (zn1 s (p + 1))) (zv1 s (zn1 s (zn1 s (p + 1))))) (dS s (zv1 s (p + 1)) (zv1 s (zn1 s (p + 1))) (zv1 s (zn1 s (zn1 s (p + 1)))) 113 (12 + k)) (dS s (zv1 s (p + 1)) (zv1 s (zn1 s (p + 1))) (zv1 s (zn1 s (zn1 s (p + 1)))) 114 (12 + k)) k = true
        rw [r13, r14, r15]
        by_cases e : k = s 112 1
        · subst e
          rw [va_up_s, va_up_s, va_up_s, hdup _ _ _ (by omega)]
          exact ⟨by omega, by omega, o5, n3.1, n3.2, o6⟩
        · rw [va_up_n _ _ (by omega), va_up_n _ _ (by omega), va_up_n _ _ (by omega), hdup _ _ _ (by omega)]
          exact dS1 k (by omega)
      · rw [if_neg ok] at h; cases h
    · rw [if_neg h115] at h
      by_cases h103 : s 110 p = 103
      · rw [if_pos h103] at h
        by_cases ok : okG s p = true
        · rw [if_pos ok] at h
          cases h
          unfold okG at ok
          simp only [Bool.and_eq_true, decide_eq_true_eq] at ok
          obtain ⟨⟨⟨o1, o2⟩, o3⟩, o4⟩ := ok
          have n1 : 0 ≤ zv1 s (p + 1) ∧ zv1 s (p + 1) ≤ s 111 1 - 1 := zNok_in o2
          have n2 : 0 ≤ zv1 s (zn1 s (p + 1)) ∧ zv1 s (zn1 s (p + 1)) ≤ s 111 1 - 1 := zNok_in o3
          have n3 : 0 ≤ zv1 s (zn1 s (zn1 s (p + 1))) ∧ zv1 s (zn1 s (zn1 s (p + 1))) ≤ s 111 1 - 1 := zNok_in o4
          refine ⟨⟨⟨d1, d2, d3, by show s 109 13 + 1 ≤ 8; omega, d5⟩, (fun k hk => ⟨(dS1 k hk).1, (dS1 k hk).2.1, (dS1 k hk).2.2.1, (dS1 k hk).2.2.2.1, (dS1 k hk).2.2.2.2.1, (zDup_congr (s := s) (s2 := dG s (zv1 s (p + 1)) (zv1 s (zn1 s (p + 1))) (zv1 s (zn1 s (zn1 s (p + 1))))) (fun j _ => ⟨rfl, rfl⟩)).trans (dS1 k hk).2.2.2.2.2⟩), fun k hk => ?_, dW1, dR1, fun z => by cases z⟩, ⟨by show p < zn1 s (zn1 s (zn1 s (p + 1))); omega, by show zn1 s (zn1 s (zn1 s (p + 1))) ≤ p + 10; omega⟩, (((Scr.rf.u rfl).u rfl).u rfl).u rfl⟩
          have hk' : k < 3 * (s 109 13 + 1) := hk
          show va_up (va_up (va_up (s 121) (3 * s 109 13) (zv1 s (p + 1))) (3 * s 109 13 + 1) (zv1 s (zn1 s (p + 1)))) (3 * s 109 13 + 2) (zv1 s (zn1 s (zn1 s (p + 1)))) k < s 111 1
          by_cases e3 : k = 3 * s 109 13 + 2
          · rw [e3, va_up_s]; omega
          · rw [va_up_n _ _ e3]
            by_cases e2 : k = 3 * s 109 13 + 1
            · rw [e2, va_up_s]; omega
            · rw [va_up_n _ _ e2]
              by_cases e1 : k = 3 * s 109 13
              · rw [e1, va_up_s]; omega
              · rw [va_up_n _ _ e1]; exact dG1 k (by omega)
        · rw [if_neg ok] at h; cases h
      · rw [if_neg h103] at h
        by_cases h119 : s 110 p = 119
        · rw [if_pos h119] at h
          by_cases ok : okW s p = true
          · rw [if_pos ok] at h
            cases h
            unfold okW at ok
            simp only [Bool.and_eq_true, decide_eq_true_eq] at ok
            obtain ⟨⟨⟨o1, o2⟩, o3⟩, o4⟩ := ok
            have n1 : 0 ≤ zv1 s (p + 1) ∧ zv1 s (p + 1) ≤ 3 := zNok_in o2
            have n2 : 0 ≤ zv1 s (zn1 s (p + 1)) ∧ zv1 s (zn1 s (p + 1)) ≤ s 111 1 - 1 := zNok_in o3
            have n3 : 0 ≤ zv1 s (zn1 s (zn1 s (p + 1))) ∧ zv1 s (zn1 s (zn1 s (p + 1))) ≤ s 111 1 - 1 := zNok_in o4
            refine ⟨⟨⟨d1, d2, d3, d4, by show s 116 1 + 1 ≤ 4; omega⟩, (fun k hk => ⟨(dS1 k hk).1, (dS1 k hk).2.1, (dS1 k hk).2.2.1, (dS1 k hk).2.2.2.1, (dS1 k hk).2.2.2.2.1, (zDup_congr (s := s) (s2 := dW s (zv1 s (p + 1)) (zv1 s (zn1 s (p + 1))) (zv1 s (zn1 s (zn1 s (p + 1))))) (fun j _ => ⟨rfl, rfl⟩)).trans (dS1 k hk).2.2.2.2.2⟩), dG1, fun i hi => ?_, dR1, fun z => by cases z⟩, ⟨by show p < zn1 s (zn1 s (zn1 s (p + 1))); omega, by show zn1 s (zn1 s (zn1 s (p + 1))) ≤ p + 10; omega⟩, (((Scr.rf.u (by simp [zDr])).u (by simp [zDr])).u (by simp [zDr])).u rfl⟩
            have hi' : i < s 116 1 + 1 := hi
            show va_up (s 117) (4 + s 116 1) (zv1 s (p + 1)) (4 + i) < 4 ∧ va_up (s 118) (4 + s 116 1) (zv1 s (zn1 s (p + 1))) (4 + i) < s 111 1 ∧ va_up (s 119) (4 + s 116 1) (zv1 s (zn1 s (zn1 s (p + 1)))) (4 + i) < s 111 1
            by_cases e : i = s 116 1
            · subst e
              rw [va_up_s, va_up_s, va_up_s]
              exact ⟨by omega, by omega, by omega⟩
            · rw [va_up_n _ _ (by omega), va_up_n _ _ (by omega), va_up_n _ _ (by omega)]
              exact dW1 i (by omega)
          · rw [if_neg ok] at h; cases h
        · rw [if_neg h119] at h
          by_cases h114 : s 110 p = 114
          · rw [if_pos h114] at h
            by_cases ok : okR s p = true
            · rw [if_pos ok] at h
              cases h
              unfold okR at ok
              simp only [Bool.and_eq_true, decide_eq_true_eq] at ok
              obtain ⟨⟨⟨-, o2⟩, o3⟩, o4⟩ := ok
              have n1 : 0 ≤ zv1 s (p + 1) ∧ zv1 s (p + 1) ≤ 9 := zNok_in o2
              have n2 : 0 ≤ zv1 s (zn1 s (p + 1)) ∧ zv1 s (zn1 s (p + 1)) ≤ 9 := zNok_in o3
              have n3 : 0 ≤ zv1 s (zn1 s (zn1 s (p + 1))) ∧ zv1 s (zn1 s (zn1 s (p + 1))) ≤ 9 := zNok_in o4
              refine ⟨⟨⟨d1, d2, d3, d4, d5⟩, (fun k hk => ⟨(dS1 k hk).1, (dS1 k hk).2.1, (dS1 k hk).2.2.1, (dS1 k hk).2.2.2.1, (dS1 k hk).2.2.2.2.1, (zDup_congr (s := s) (s2 := dR s (zv1 s (p + 1)) (zv1 s (zn1 s (p + 1))) (zv1 s (zn1 s (zn1 s (p + 1))))) (fun j _ => ⟨rfl, rfl⟩)).trans (dS1 k hk).2.2.2.2.2⟩), dG1, dW1, fun k hk => ?_, fun z => by cases z⟩, ⟨by show p < zn1 s (zn1 s (zn1 s (p + 1))); omega, by show zn1 s (zn1 s (zn1 s (p + 1))) ≤ p + 10; omega⟩, ((Scr.rf.u rfl).u rfl).u rfl⟩
              have h3 : k = 0 ∨ k = 1 ∨ k = 2 := by omega
              rcases h3 with rfl | rfl | rfl
              · show zv1 s (p + 1) ≤ 9; exact n1.2
              · show zv1 s (zn1 s (p + 1)) ≤ 9; exact n2.2
              · show zv1 s (zn1 s (zn1 s (p + 1))) ≤ 9; exact n3.2
            · rw [if_neg ok] at h; cases h
          · rw [if_neg h114] at h; cases h
def aFault (s : Nat → Nat → Nat) : Int32 := match zPar 201 (sIni s) true 0 with
  | .inl p => nI p
  | .inr _ => -4
