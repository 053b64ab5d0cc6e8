/-! PURE: the system's draft -/
abbrev nrD (s : Nat → Nat → Nat) : Nat → Nat := zNr (fun k => s 113 (12 + k)) (fun k => s 114 (12 + k)) (fun k => s 115 (12 + k)) none (s 112 1)
/-- the draft at d is as s says -/
def DrC (s : Nat → Nat → Nat) (I : AI) (d : Nat) : Prop := (I (d + 1) 0 = nI (s 111 1) ∧ I (d + 1) 1 = nI (s 112 1)) ∧ (∀ k, k < s 112 1 → I (d + 2) k = nI (s 113 (12 + k)) ∧ I (d + 3) k = nI (s 114 (12 + k))) ∧ (∀ a b, a < 8 → b < 8 → I (d + 5 + a) b = nI (zln (nrD s (8 * a + b)))) ∧ CSg (s 109 13) (fun k => s 121 (3 * k)) (fun k => s 121 (3 * k + 1)) (fun k => s 121 (3 * k + 2)) I (d + 22) ∧ CWk (s 116 1) (fun i => s 117 (4 + i)) (fun i => s 118 (4 + i)) (fun i => s 119 (4 + i)) (fun i => s 119 (4 + i)) I (d + 26) ∧ I d 3 = nI (s 120 3) ∧ I d 4 = nI (s 120 4) ∧ I d 5 = nI (s 120 5)
/-- only the draft is written -/
def zDf (d : Nat) (I J : AI) : Prop := ∀ a, (a < d ∨ d + 31 ≤ a) → J a = I a
theorem zDf.rf {d : Nat} {I : AI} : zDf d I I := fun _ _ => rfl
theorem zDf.trans {d : Nat} {I J K : AI} (h : zDf d I J) (h2 : zDf d J K) : zDf d I K := fun a ha => (h2 a ha).trans (h a ha)
theorem zDf.u {d : Nat} {I J : AI} (h : zDf d I J) {a k : Nat} {x : Int32} (ha : d ≤ a ∧ a < d + 31) : zDf d I (zu J a k x) := fun b hb => by rw [zu_o _ _ (by omega)]; exact h b hb
theorem zGf.df {d g : Nat} {I J : AI} (h : zGf g I J) (hg : d ≤ g ∧ g + 3 < d + 31) : zDf d I J := fun a ha => h a (by omega) (by omega) (by omega) (by omega)
theorem CSg.c {m : Nat} {gc gt gn gc2 gt2 gn2 : Nat → Nat} {I : AI} {g : Nat} (h : CSg m gc gt gn I g) (e : ∀ k, k < m → gc2 k = gc k ∧ gt2 k = gt k ∧ gn2 k = gn k) : CSg m gc2 gt2 gn2 I g := ⟨h.1, h.2.1, fun k hk => by rw [(e k hk).1, (e k hk).2.1, (e k hk).2.2]; exact h.2.2 k hk⟩
theorem CWk.c {m : Nat} {kd fm am to kd2 fm2 am2 to2 : Nat → Nat} {I : AI} {w : Nat} (h : CWk m kd fm am to I w) (e : ∀ k, k < m → kd2 k = kd k ∧ fm2 k = fm k ∧ am2 k = am k ∧ to2 k = to k) : CWk m kd2 fm2 am2 to2 I w := ⟨h.1, h.2.1, fun k hk => by rw [(e k hk).1, (e k hk).2.1, (e k hk).2.2.1, (e k hk).2.2.2]; exact h.2.2 k hk⟩
theorem zNr_c {sa sb sl sa2 sb2 sl2 : Nat → Nat} {w : Option Nat} : ∀ {n : Nat}, (∀ k, k < n → sa2 k = sa k ∧ sb2 k = sb k ∧ sl2 k = sl k) → zNr sa2 sb2 sl2 w n = zNr sa sb sl w n
  | 0, _ => rfl
  | n + 1, h => by
    unfold zNr
    rw [zNr_c (fun k hk => h k (by omega)), (h n (by omega)).1, (h n (by omega)).2.1, (h n (by omega)).2.2]
theorem DrC.C {s : Nat → Nat → Nat} {I : AI} {d v : Nat} (h : DrC s I d) : DrC (dC s v) (zu I (d + 1) 0 (nI v)) d := by
  obtain ⟨h1, h2, h3, h4, h5, h6⟩ := h
  refine ⟨⟨zu_s _ _ _ _, by rw [zu_n _ _ (by omega)]; exact h1.2⟩, fun k hk => ?_, fun a b ha hb => ?_, ?_, ?_, ?_⟩
  · rw [zu_o _ _ (by omega), zu_o _ _ (by omega)]; exact h2 k hk
  · rw [zu_o _ _ (by omega)]; exact h3 a b ha hb
  · exact h4.eq (zu_o _ _ (by omega)) (zu_o _ _ (by omega)) (zu_o _ _ (by omega)) (zu_o _ _ (by omega))
  · exact h5.eq (zu_o _ _ (by omega)) (zu_o _ _ (by omega)) (zu_o _ _ (by omega)) (zu_o _ _ (by omega)) (zu_o _ _ (by omega))
  · rw [zu_o _ _ (by omega)]; exact h6
theorem DrC.R {s : Nat → Nat → Nat} {I : AI} {d r q w : Nat} (h : DrC s I d) : DrC (dR s r q w) (zu (zu (zu I d 3 (nI r)) d 4 (nI q)) d 5 (nI w)) d := by
  obtain ⟨h1, h2, h3, h4, h5, h6⟩ := h
  have e : ∀ a, a ≠ d → zu (zu (zu I d 3 (nI r)) d 4 (nI q)) d 5 (nI w) a = I a := fun a ha => by rw [zu_o _ _ ha, zu_o _ _ ha, zu_o _ _ ha]
  refine ⟨⟨?_, ?_⟩, fun k hk => ?_, fun a b ha hb => ?_, ?_, ?_, ?_⟩
  · rw [e _ (by omega)]; exact h1.1
  · rw [e _ (by omega)]; exact h1.2
  · rw [e _ (by omega), e _ (by omega)]; exact h2 k hk
  · rw [e _ (by omega)]; exact h3 a b ha hb
  · exact h4.eq (e _ (by omega)) (e _ (by omega)) (e _ (by omega)) (e _ (by omega))
  · exact h5.eq (e _ (by omega)) (e _ (by omega)) (e _ (by omega)) (e _ (by omega)) (e _ (by omega))
  · refine ⟨?_, ?_, zu_s _ _ _ _⟩
    · rw [zu_n _ _ (by decide), zu_n _ _ (by decide), zu_s]; rfl
    · rw [zu_n _ _ (by decide), zu_s]; rfl
theorem DrC.G {s : Nat → Nat → Nat} {I J : AI} {d c t n : Nat} (h : DrC s I d) (hF : zGf (d + 22) I J) (hG : CSg (s 109 13 + 1) (insN (fun k => s 121 (3 * k)) (s 109 13) c) (insN (fun k => s 121 (3 * k + 1)) (s 109 13) t) (insN (fun k => s 121 (3 * k + 2)) (s 109 13) n) J (d + 22)) : DrC (dG s c t n) J d := by
  obtain ⟨h1, h2, h3, h4, h5, h6⟩ := h
  have e : ∀ a, (a < d + 22 ∨ d + 26 ≤ a) → J a = I a := fun a ha => hF a (by omega) (by omega) (by omega) (by omega)
  refine ⟨⟨?_, ?_⟩, fun k hk => ?_, fun a b ha hb => ?_, ?_, ?_, ?_⟩
  · rw [e _ (by omega)]; exact h1.1
  · rw [e _ (by omega)]; exact h1.2
  · rw [e _ (by omega), e _ (by omega)]; exact h2 k hk
  · rw [e _ (by omega)]; exact h3 a b ha hb
  · refine CSg.c hG (fun k hk => ?_)
    have hk2 : k < s 109 13 + 1 := hk
    have r : ∀ j, dG s c t n 121 j = va_up (va_up (va_up (s 121) (3 * s 109 13) c) (3 * s 109 13 + 1) t) (3 * s 109 13 + 2) n j := fun j => rfl
    simp only [r]
    unfold insN
    by_cases e2 : k < s 109 13
    · rw [if_pos e2, if_pos e2, if_pos e2]
      refine ⟨?_, ?_, ?_⟩ <;> rw [va_up_n _ _ (by omega), va_up_n _ _ (by omega), va_up_n _ _ (by omega)]
    · have e3 : k = s 109 13 := by omega
      rw [if_neg e2, if_neg e2, if_neg e2, if_pos e3, if_pos e3, if_pos e3, e3]
      refine ⟨?_, ?_, ?_⟩
      · rw [va_up_n _ _ (by omega), va_up_n _ _ (by omega), va_up_s]
      · rw [va_up_n _ _ (by omega), va_up_s]
      · rw [va_up_s]
  · exact h5.eq (e _ (by omega)) (e _ (by omega)) (e _ (by omega)) (e _ (by omega)) (e _ (by omega))
  · rw [e _ (by omega)]; exact h6
/-- a walker more -/
def zWd (I : AI) (w m k f a : Nat) : AI := zu (zu (zu (zu (zu I (w + 1) m (nI k)) (w + 2) m (nI f)) (w + 3) m (nI a)) (w + 4) m (nI a)) w 4 (nI (m + 1))
theorem zWd_o {I : AI} {w m k f a x : Nat} (h : x < w ∨ w + 5 ≤ x) : zWd I w m k f a x = I x := by
  unfold zWd
  rw [zu_o _ _ (by omega), zu_o _ _ (by omega), zu_o _ _ (by omega), zu_o _ _ (by omega), zu_o _ _ (by omega)]
theorem DrC.W {s : Nat → Nat → Nat} {I : AI} {d k f a : Nat} (h : DrC s I d) (hm : s 116 1 < 4) (hk : k < 4) (hf : f < 8) (ha : a < 8) : DrC (dW s k f a) (zWd I (d + 26) (s 116 1) k f a) d := by
  obtain ⟨h1, h2, h3, h4, h5, h6⟩ := h
  have e : ∀ x, (x < d + 26 ∨ d + 31 ≤ x) → zWd I (d + 26) (s 116 1) k f a x = I x := fun x hx => zWd_o (by omega)
  refine ⟨⟨?_, ?_⟩, fun k hk => ?_, fun a b ha hb => ?_, ?_, ?_, ?_⟩
  · rw [e _ (by omega)]; exact h1.1
  · rw [e _ (by omega)]; exact h1.2
  · rw [e _ (by omega), e _ (by omega)]; exact h2 k hk
  · rw [e _ (by omega)]; exact h3 a b ha hb
  · exact h4.eq (e _ (by omega)) (e _ (by omega)) (e _ (by omega)) (e _ (by omega))
  · refine ⟨zu_s _ _ _ _, by show s 116 1 + 1 ≤ 4; omega, fun i hi => ?_⟩
    have hi2 : i < s 116 1 + 1 := hi
    have r7 : ∀ j, dW s k f a 117 j = va_up (s 117) (4 + s 116 1) k j := fun j => rfl
    have r8 : ∀ j, dW s k f a 118 j = va_up (s 118) (4 + s 116 1) f j := fun j => rfl
    have r9 : ∀ j, dW s k f a 119 j = va_up (s 119) (4 + s 116 1) a j := fun j => rfl
    simp only [r7, r8, r9]
    unfold zWd
    rw [zu_o _ _ (show d + 26 + 1 ≠ d + 26 by omega), zu_o _ _ (show d + 26 + 2 ≠ d + 26 by omega), zu_o _ _ (show d + 26 + 3 ≠ d + 26 by omega), zu_o _ _ (show d + 26 + 4 ≠ d + 26 by omega), zu_o _ _ (show d + 26 + 1 ≠ d + 26 + 4 by omega), zu_o _ _ (show d + 26 + 1 ≠ d + 26 + 3 by omega), zu_o _ _ (show d + 26 + 1 ≠ d + 26 + 2 by omega), zu_o _ _ (show d + 26 + 2 ≠ d + 26 + 4 by omega), zu_o _ _ (show d + 26 + 2 ≠ d + 26 + 3 by omega), zu_o _ _ (show d + 26 + 3 ≠ d + 26 + 4 by omega)]
    by_cases e2 : i = s 116 1
    · subst e2
      rw [zu_s, zu_s, zu_s, zu_s, va_up_s, va_up_s, va_up_s]
      exact ⟨⟨rfl, rfl, rfl, rfl⟩, hk, hf, ha, ha⟩
    · rw [zu_n _ _ e2, zu_n _ _ e2, zu_n _ _ e2, zu_n _ _ e2, va_up_n _ _ (by omega), va_up_n _ _ (by omega), va_up_n _ _ (by omega), zu_o _ _ (show d + 26 + 2 ≠ d + 26 + 1 by omega), zu_o _ _ (show d + 26 + 3 ≠ d + 26 + 2 by omega), zu_o _ _ (show d + 26 + 3 ≠ d + 26 + 1 by omega), zu_o _ _ (show d + 26 + 4 ≠ d + 26 + 3 by omega), zu_o _ _ (show d + 26 + 4 ≠ d + 26 + 2 by omega), zu_o _ _ (show d + 26 + 4 ≠ d + 26 + 1 by omega)]
      exact h5.2.2 i (by omega)
  · rw [e _ (by omega)]; exact h6
/-- a street more -/
def zSd (I : AI) (d m a b x : Nat) : AI := zu (zu (zu (zu (zu I (d + 2) m (nI a)) (d + 3) m (nI b)) (d + 5 + a) b (nI x)) (d + 5 + b) a (nI x)) (d + 1) 1 (nI (m + 1))
theorem DrC.S {s : Nat → Nat → Nat} {I : AI} {d a b x : Nat} (h : DrC s I d) (hm : s 112 1 < 12) (ha : a < 8) (hb : b < 8) (hx : x < 10000) : DrC (dS s a b x) (zSd I d (s 112 1) a b x) d := by
  obtain ⟨h1, h2, h3, h4, h5, h6⟩ := h
  have e : ∀ y, (y < d + 1 ∨ d + 13 ≤ y) → zSd I d (s 112 1) a b x y = I y := fun y hy => by
    unfold zSd
    rw [zu_o _ _ (by omega), zu_o _ _ (by omega), zu_o _ _ (by omega), zu_o _ _ (by omega), zu_o _ _ (by omega)]
  have r3 : ∀ j, dS s a b x 113 j = va_up (s 113) (12 + s 112 1) a j := fun j => rfl
  have r4 : ∀ j, dS s a b x 114 j = va_up (s 114) (12 + s 112 1) b j := fun j => rfl
  have r5 : ∀ j, dS s a b x 115 j = va_up (s 115) (12 + s 112 1) x j := fun j => rfl
  refine ⟨⟨?_, zu_s _ _ _ _⟩, fun k hk => ?_, fun p q hp hq => ?_, ?_, ?_, ?_⟩
  · unfold zSd
    rw [zu_n _ _ (by decide), zu_o _ _ (by omega), zu_o _ _ (by omega), zu_o _ _ (by omega), zu_o _ _ (by omega)]
    exact h1.1
  · have hk2 : k < s 112 1 + 1 := hk
    rw [r3, r4]
    unfold zSd
    rw [zu_o _ _ (show d + 2 ≠ d + 1 by omega), zu_o _ _ (show d + 3 ≠ d + 1 by omega), zu_o _ _ (show d + 2 ≠ d + 5 + b by omega), zu_o _ _ (show d + 3 ≠ d + 5 + b by omega), zu_o _ _ (show d + 2 ≠ d + 5 + a by omega), zu_o _ _ (show d + 3 ≠ d + 5 + a by omega), zu_o _ _ (show d + 2 ≠ d + 3 by omega)]
    by_cases e2 : k = s 112 1
    · subst e2
      rw [zu_s, zu_s, va_up_s, va_up_s]
      exact ⟨rfl, rfl⟩
    · rw [zu_n _ _ e2, zu_n _ _ e2, va_up_n _ _ (by omega), va_up_n _ _ (by omega), zu_o _ _ (show d + 3 ≠ d + 2 by omega)]
      exact h2 k (by omega)
  · have hn : nrD (dS s a b x) = va_up (va_up (nrD s) (8 * a + b) x) (8 * b + a) x := by
      show zNr (fun k => dS s a b x 113 (12 + k)) (fun k => dS s a b x 114 (12 + k)) (fun k => dS s a b x 115 (12 + k)) none (s 112 1 + 1) = _
      rw [zNr, if_neg (by intro z; cases z)]
      rw [zNr_c (sa := fun k => s 113 (12 + k)) (sb := fun k => s 114 (12 + k)) (sl := fun k => s 115 (12 + k)) (fun k hk => by
        simp only [r3, r4, r5]
        rw [va_up_n _ _ (by omega), va_up_n _ _ (by omega), va_up_n _ _ (by omega)]
        exact ⟨rfl, rfl, rfl⟩)]
      simp only [r3, r4, r5, va_up_s]
    rw [hn]
    unfold zSd
    rw [zu_o _ _ (show d + 5 + p ≠ d + 1 by omega)]
    by_cases e1 : p = b ∧ q = a
    · rw [e1.1, e1.2, zu_s, va_up_s, zln_lt hx]
    · have e1' : zu (zu (zu (zu I (d + 2) (s 112 1) (nI a)) (d + 3) (s 112 1) (nI b)) (d + 5 + a) b (nI x)) (d + 5 + b) a (nI x) (d + 5 + p) q = zu (zu (zu I (d + 2) (s 112 1) (nI a)) (d + 3) (s 112 1) (nI b)) (d + 5 + a) b (nI x) (d + 5 + p) q := by
        by_cases e3 : p = b
        · subst e3; rw [zu_n _ _ (fun z => e1 ⟨rfl, z⟩)]
        · rw [zu_o _ _ (by omega)]
      rw [e1', va_up_n _ _ (by omega)]
      by_cases e2 : p = a ∧ q = b
      · rw [e2.1, e2.2, zu_s, va_up_s, zln_lt hx]
      · have e2' : zu (zu (zu I (d + 2) (s 112 1) (nI a)) (d + 3) (s 112 1) (nI b)) (d + 5 + a) b (nI x) (d + 5 + p) q = I (d + 5 + p) q := by
          by_cases e3 : p = a
          · subst e3; rw [zu_n _ _ (fun z => e2 ⟨rfl, z⟩), zu_o _ _ (by omega), zu_o _ _ (by omega)]
          · rw [zu_o _ _ (by omega), zu_o _ _ (by omega), zu_o _ _ (by omega)]
        rw [e2', va_up_n _ _ (by omega)]
        exact h3 p q hp hq
  · exact h4.eq (e _ (by omega)) (e _ (by omega)) (e _ (by omega)) (e _ (by omega))
  · exact h5.eq (e _ (by omega)) (e _ (by omega)) (e _ (by omega)) (e _ (by omega)) (e _ (by omega))
  · rw [e _ (by omega)]; exact h6
/-- a street between a and b: by the list, by the rows -/
theorem zDup_nr {s : Nat → Nat → Nat} {a b : Nat} (ha : a < 8) (hb : b < 8) : ∀ {n : Nat}, (∀ k, k < n → s 113 (12 + k) < 8 ∧ s 114 (12 + k) < 8 ∧ s 115 (12 + k) ≤ 20) → (zDup s a b n = true ↔ ¬ zNr (fun k => s 113 (12 + k)) (fun k => s 114 (12 + k)) (fun k => s 115 (12 + k)) none n (8 * a + b) < 10000)
  | 0, _ => ⟨fun _ => by show ¬ (10000 : Nat) < 10000; omega, fun _ => rfl⟩
  | n + 1, h => by
    have ih := zDup_nr (s := s) ha hb (n := n) (fun k hk => h k (by omega))
    have h2 := h n (by omega)
    unfold zDup zNr
    rw [if_neg (by intro z; cases z)]
    simp only [Bool.and_eq_true, Bool.not_eq_true', decide_eq_false_iff_not]
    by_cases e1 : 8 * s 114 (12 + n) + s 113 (12 + n) = 8 * a + b
    · rw [e1, va_up_s]
      constructor
      · intro z; exact absurd (Or.inr ⟨by omega, by omega⟩) z.2
      · intro z; omega
    · rw [va_up_n _ _ (fun z => e1 z.symm)]
      by_cases e2 : 8 * s 113 (12 + n) + s 114 (12 + n) = 8 * a + b
      · rw [e2, va_up_s]
        constructor
        · intro z; exact absurd (Or.inl ⟨by omega, by omega⟩) z.2
        · intro z; omega
      · rw [va_up_n _ _ (fun z => e2 z.symm), ← ih]
        constructor
        · intro z; exact z.1
        · intro z; exact ⟨z, by omega⟩
/-- a fresh draft -/
theorem DrC.ini {s : Nat → Nat → Nat} {I : AI} {d : Nat} (h1 : I (d + 1) 0 = nI 4 ∧ I (d + 1) 1 = nI 0) (h2 : ∀ a b, a < 8 → b < 8 → I (d + 5 + a) b = nI 0) (h3 : I (d + 22) 3 = nI 0) (h4 : I (d + 26) 4 = nI 0) (h5 : I d 3 = nI 2 ∧ I d 4 = nI 3 ∧ I d 5 = nI 1) : DrC (sIni s) I d :=
  ⟨h1, fun k hk => by have : k < 0 := hk; omega, fun a b ha hb => (h2 a b ha hb).trans rfl, ⟨h3, by show (0 : Nat) ≤ 9; omega, fun k hk => by have : k < 0 := hk; omega⟩, ⟨h4, by show (0 : Nat) ≤ 4; omega, fun k hk => by have : k < 0 := hk; omega⟩, h5⟩
