/-! PURE: undo, keep, back, text, what was seen -/
theorem gB_j {f : Nat → Nat} {b j : Nat} (hj : j < 32) : zCopy f b 0 j = f (b + j) := by unfold zCopy; rw [if_pos (by omega)]; exact congrArg f (by omega)
theorem gB_o {f : Nat → Nat} {b j : Nat} (hj : 32 ≤ j) : zCopy f b 0 j = f j := by unfold zCopy; rw [if_neg (by omega)]
/-- back to block b: numbers, and what the system has then -/
theorem RInv.backTo {s s2 : Nat → Nat → Nat} {b d k : Nat} (hR : RInv s) (hb : BlkOk s b) (hd : d ≤ s 109 18) (hk : k ≤ s 109 19) (e : s2 = va_up (va_up s 122 (zCopy (s 122) b 0)) 109 (va_up (va_up (s 109) 19 k) 18 d)) : RInv s2 := by
  subst e
  obtain ⟨⟨a1, a2, a3, a4, a5, a6⟩, ⟨b1, b2, b3, b4⟩, c1, c2, c3, c4⟩ := hR
  have hw : s 116 0 ≤ 4 := a2.1
  refine ⟨⟨a1, a2, BlkOk.c hb hw rfl (fun j hj => by rw [Nat.zero_add]; exact gB_j hj), a4, a5, a6⟩, ⟨by show d ≤ 8; omega, by show k ≤ 2; omega, b3, b4⟩, c1, c2, fun e he => ?_, fun e he => ?_⟩
  · have he2 : e < d := he
    exact BlkOk.c (c3 e (by omega)) hw rfl (fun j hj => gB_o (by omega))
  · have he2 : e < k := he
    exact BlkOk.c (c4 e (by omega)) hw rfl (fun j hj => gB_o (by omega))
theorem LogR.pop {s s2 : Nat → Nat → Nat} {I J : AI} {o : Nat} (ho : o < 8) (hd : s 109 18 ≤ 8) (hd1 : 1 ≤ s 109 18) (hE : ∀ e, e < s 109 18 → Rev (s 116 0) (Bk (s 122) (32 + 32 * e)) (Bk (s 122) (zNb (s 109 18) e)) (I 75 ((o + e) % 8)) (I 76 ((o + e) % 8)) (I 77 ((o + e) % 8)) (I 78 ((o + e) % 8)) (I 79 ((o + e) % 8))) (hw : s 116 0 ≤ 4) (hb : ∀ e, e < s 109 18 → s 122 (32 + 32 * e) ≤ 8) (h5 : J 74 5 = nI o) (h6 : J 74 6 = nI (s 109 18 - 1)) (hJ : ∀ a, 75 ≤ a → a ≤ 79 → J a = I a) (h18 : s2 109 18 = s 109 18 - 1) (h116 : s2 116 0 = s 116 0) (hg : s2 122 = zCopy (s 122) (32 + 32 * (s 109 18 - 1)) 0) : LogR s2 J := by
  refine ⟨o, ho, h5, by rw [h18]; exact h6, by rw [h18]; omega, fun e he => ?_⟩
  rw [h18] at he
  rw [h18, h116, hg, hJ 75 (by omega) (by omega), hJ 76 (by omega) (by omega), hJ 77 (by omega) (by omega), hJ 78 (by omega) (by omega), hJ 79 (by omega) (by omega)]
  have h9 := hE e (by omega)
  refine h9.c hw (by show s 122 (32 + 32 * e + 0) ≤ 8; exact hb e (by omega)) (fun j hj => gB_o (by omega)) (fun j hj => ?_)
  show zCopy (s 122) (32 + 32 * (s 109 18 - 1)) 0 (zNb (s 109 18 - 1) e + j) = s 122 (zNb (s 109 18) e + j)
  unfold zNb
  rw [if_pos (show e + 1 < s 109 18 by omega)]
  by_cases e2 : e + 1 < s 109 18 - 1
  · rw [if_pos e2, gB_o (by omega)]
  · rw [if_neg e2, Nat.zero_add, gB_j hj, show s 109 18 - 1 = e + 1 by omega]
theorem CR.undo {t : Nat} {s : Nat → Nat → Nat} {I J : AI} {o : Nat} (ht : t = 5 ∨ t = 36) (h : CR t s I) (hR : RInv s) (hd1 : 1 ≤ s 109 18) (ho : o < 8) (hE : ∀ e, e < s 109 18 → Rev (s 116 0) (Bk (s 122) (32 + 32 * e)) (Bk (s 122) (zNb (s 109 18) e)) (I 75 ((o + e) % 8)) (I 76 ((o + e) % 8)) (I 77 ((o + e) % 8)) (I 78 ((o + e) % 8)) (I 79 ((o + e) % 8))) (h5 : J 74 5 = nI o) (h6 : J 74 6 = nI (s 109 18 - 1)) (hJ : ∀ a, a ≠ 74 → (a < t + 22 ∨ t + 31 ≤ a) → J a = I a) (hS : CSg (s 122 (32 + 32 * (s 109 18 - 1))) (sgC s (32 + 32 * (s 109 18 - 1))) (sgT s (32 + 32 * (s 109 18 - 1))) (sgN s (32 + 32 * (s 109 18 - 1))) J (t + 22)) (hW : CWk (s 116 0) (s 117) (s 118) (s 119) (fun i => s 122 (32 + 32 * (s 109 18 - 1) + 28 + i)) J (t + 26)) : CR t (sSet s (zCopy (s 122) (32 + 32 * (s 109 18 - 1)) 0) (s 109 18 - 1)) J := by
  have hd := hR.2.1.1
  have hw : s 116 0 ≤ 4 := hR.1.2.1.1
  have hb := hR.2.2.2.2.1 (s 109 18 - 1) (by omega)
  refine ⟨h.tx.eq (hJ 1 (by omega) (by omega)) (hJ 2 (by omega) (by omega)), h.st.eq (hJ _ (by omega) (by omega)) (fun a ha => hJ _ (by omega) (by omega)) (fun a ha => hJ _ (by omega) (by omega)), h.sr.eq (fun a h1 h2 => hJ a (by omega) (by omega)), ?_, ?_, ?_, ?_, ?_, ?_⟩
  · show CSg (zCopy (s 122) (32 + 32 * (s 109 18 - 1)) 0 0) (fun k => zCopy (s 122) (32 + 32 * (s 109 18 - 1)) 0 (0 + 1 + 3 * k)) (fun k => zCopy (s 122) (32 + 32 * (s 109 18 - 1)) 0 (0 + 1 + 3 * k + 1)) (fun k => zCopy (s 122) (32 + 32 * (s 109 18 - 1)) 0 (0 + 1 + 3 * k + 2)) J (t + 22)
    rw [gB_j (by omega), Nat.add_zero]
    have hb1 := hb.1
    exact CSg.c hS (fun k hk => ⟨(gB_j (by omega)).trans (congrArg (s 122) (by omega)), (gB_j (by omega)).trans (congrArg (s 122) (by omega)), (gB_j (by omega)).trans (congrArg (s 122) (by omega))⟩)
  · exact CWk.c hW (fun i hi => ⟨rfl, rfl, rfl, (gB_j (by have hi2 : i < s 116 0 := hi; omega)).trans (congrArg (s 122) (by omega))⟩)
  · rw [hJ t (by omega) (by omega)]; exact h.rt
  · exact LogR.pop ho hd hd1 hE hw (fun e he => (hR.2.2.2.2.1 e he).1) h5 h6 (fun a h1 h2 => hJ a (by omega) (by omega)) rfl rfl rfl
  · exact ShR.c (h.sf.eq (fun a h1 h2 => hJ a (by omega) (by omega))) rfl rfl hw (fun x hx => (hR.2.2.2.2.2 x hx).1) (fun k h1 h2 => gB_o (by omega))
  · exact h.se.eq (fun a h1 h2 => hJ a (by omega) (by omega))
theorem RInv.undo {s : Nat → Nat → Nat} (hR : RInv s) (hd1 : 1 ≤ s 109 18) : RInv (sSet s (zCopy (s 122) (32 + 32 * (s 109 18 - 1)) 0) (s 109 18 - 1)) := by
  refine hR.backTo (b := 32 + 32 * (s 109 18 - 1)) (d := s 109 18 - 1) (k := s 109 19) (hR.2.2.2.2.1 _ (by omega)) (by omega) (Nat.le_refl _) ?_
  unfold sSet
  congr 1
  funext j
  unfold va_up
  by_cases e : j = 18
  · rw [if_pos e, if_pos e]
  · rw [if_neg e, if_neg e]
    by_cases e2 : j = 19
    · rw [if_pos e2, e2] <;> rfl
    · rw [if_neg e2] <;> rfl
/-! keep -/
theorem gK_o {f : Nat → Nat} {b j : Nat} (hj : j < b ∨ b + 32 ≤ j) : zCopy f 0 b j = f j := by unfold zCopy; rw [if_neg (by omega)]
theorem gK_j {f : Nat → Nat} {b j : Nat} (hj : j < 32) : zCopy f 0 b (b + j) = f j := by unfold zCopy; rw [if_pos (by omega)]; exact congrArg f (by omega)
def sKp (s : Nat → Nat → Nat) : Nat → Nat → Nat := va_up (va_up s 122 (zCopy (s 122) 0 (288 + 32 * s 109 19))) 109 (va_up (s 109) 19 (s 109 19 + 1))
theorem RInv.keep {s : Nat → Nat → Nat} (hR : RInv s) (hk : s 109 19 < 2) : RInv (sKp s) := by
  obtain ⟨⟨a1, a2, a3, a4, a5, a6⟩, ⟨b1, b2, b3, b4⟩, c1, c2, c3, c4⟩ := hR
  have hw : s 116 0 ≤ 4 := a2.1
  refine ⟨⟨a1, a2, BlkOk.c a3 hw rfl (fun j hj => gK_o (by omega)), a4, a5, a6⟩, ⟨b1, by show s 109 19 + 1 ≤ 2; omega, b3, b4⟩, c1, c2, fun e he => ?_, fun e he => ?_⟩
  · have he2 : e < s 109 18 := he
    exact BlkOk.c (c3 e he2) hw rfl (fun j hj => gK_o (by omega))
  · have he2 : e < s 109 19 + 1 := he
    by_cases e1 : e = s 109 19
    · rw [e1]
      exact BlkOk.c a3 hw rfl (fun j hj => by rw [Nat.zero_add]; exact gK_j hj)
    · exact BlkOk.c (c4 e (by omega)) hw rfl (fun j hj => gK_o (by omega))
theorem LogR.c {s s2 : Nat → Nat → Nat} {I : AI} (h : LogR s I) (h18 : s2 109 18 = s 109 18) (h116 : s2 116 0 = s 116 0) (hw : s 116 0 ≤ 4) (hb : ∀ e, e < s 109 18 → s 122 (32 + 32 * e) ≤ 8) (e : ∀ k, k < 288 → s2 122 k = s 122 k) : LogR s2 I := by
  obtain ⟨o, h1, h2, h3, h4, h5⟩ := h
  refine ⟨o, h1, h2, by rw [h18]; exact h3, by rw [h18]; exact h4, fun x hx => ?_⟩
  rw [h18] at hx
  rw [h18, h116]
  refine (h5 x hx).c hw (by show s 122 (32 + 32 * x + 0) ≤ 8; exact hb x hx) (fun j hj => e _ (by omega)) (fun j hj => ?_)
  show s2 122 (zNb (s 109 18) x + j) = s 122 (zNb (s 109 18) x + j)
  unfold zNb
  by_cases e2 : x + 1 < s 109 18
  · rw [if_pos e2]; exact e _ (by omega)
  · rw [if_neg e2]; exact e _ (by omega)
theorem CR.keep {t k : Nat} {s : Nat → Nat → Nat} {I J : AI} (ht : t = 5 ∨ t = 36) (h : CR t s I) (hR : RInv s) (hk : s 109 19 = k) (hk2 : k < 2) (hF : ∀ a, a ≠ 80 → a ≠ 83 + k → (a < 85 + 4 * k ∨ 85 + 4 * k + 3 < a) → J a = I a) (h80 : J 80 2 = nI (k + 1)) (hS : CSg (s 122 0) (sgC s 0) (sgT s 0) (sgN s 0) J (85 + 4 * k)) (hT : ∀ i, i < 4 → J (83 + k) i = I (t + 30) i) : CR t (sKp s) J := by
  have hw : s 116 0 ≤ 4 := hR.1.2.1.1
  have hm := hR.1.2.2.1.1
  have e : ∀ a, (a < 80 ∨ 92 < a) → J a = I a := fun a ha => hF a (by omega) (by omega) (by omega)
  have g : ∀ j, j < 32 → sKp s 122 j = s 122 j := fun j hj => gK_o (by omega)
  refine ⟨h.tx.eq (e 1 (by omega)) (e 2 (by omega)), h.st.eq (e _ (by omega)) (fun a ha => e _ (by omega)) (fun a ha => e _ (by omega)), h.sr.eq (fun a h1 h2 => e a (by omega)), ?_, ?_, ?_, ?_, ?_, ?_⟩
  · rw [g 0 (by omega)]
    exact CSg.c (h.sg.eq (e _ (by omega)) (e _ (by omega)) (e _ (by omega)) (e _ (by omega))) (fun q hq => ⟨g _ (by omega), g _ (by omega), g _ (by omega)⟩)
  · exact CWk.c (h.wk.eq (e _ (by omega)) (e _ (by omega)) (e _ (by omega)) (e _ (by omega)) (e _ (by omega))) (fun i hi => ⟨rfl, rfl, rfl, g _ (by have hi2 : i < s 116 0 := hi; omega)⟩)
  · rw [e t (by omega)]; exact h.rt
  · exact LogR.c (h.lg.eq (fun a h1 h2 => e a (by omega))) rfl rfl hw (fun x hx => (hR.2.2.2.2.1 x hx).1) (fun q hq => gK_o (by omega))
  · refine ⟨by show J 80 2 = nI (s 109 19 + 1); rw [hk]; exact h80, by show s 109 19 + 1 ≤ 2; omega, fun x hx => ?_⟩
    have hx2 : x < s 109 19 + 1 := hx
    by_cases e1 : x = k
    · subst e1
      have e2 : ∀ j, j < 32 → sKp s 122 (288 + 32 * x + j) = s 122 j := fun j hj => by
        show zCopy (s 122) 0 (288 + 32 * s 109 19) (288 + 32 * x + j) = _
        rw [hk]; exact gK_j hj
      have e3 : sKp s 122 (288 + 32 * x) = s 122 0 := e2 0 (by omega)
      refine ⟨?_, fun i hi => ?_⟩
      · rw [e3]
        exact CSg.c hS (fun q hq => ⟨(congrArg (sKp s 122) (by omega)).trans ((e2 (1 + 3 * q) (by omega)).trans (congrArg (s 122) (by omega))), (congrArg (sKp s 122) (by omega)).trans ((e2 (1 + 3 * q + 1) (by omega)).trans (congrArg (s 122) (by omega))), (congrArg (sKp s 122) (by omega)).trans ((e2 (1 + 3 * q + 2) (by omega)).trans (congrArg (s 122) (by omega)))⟩)
      · have hi2 : i < s 116 0 := hi
        rw [hT i (by omega), show 288 + 32 * x + 28 + i = 288 + 32 * x + (28 + i) by omega, e2 _ (by omega)]
        exact (h.wk.2.2 i hi2).1.2.2.2
    · have hx3 := h.sf.2.2 x (by omega)
      have e2 : ∀ j, j < 32 → sKp s 122 (288 + 32 * x + j) = s 122 (288 + 32 * x + j) := fun j hj => gK_o (by omega)
      have e3 : sKp s 122 (288 + 32 * x) = s 122 (288 + 32 * x) := e2 0 (by omega)
      have hb8 := (hR.2.2.2.2.2 x (by omega)).1
      refine ⟨?_, fun i hi => ?_⟩
      · rw [e3]
        exact CSg.c (hx3.1.eq (hF _ (by omega) (by omega) (by omega)) (hF _ (by omega) (by omega) (by omega)) (hF _ (by omega) (by omega) (by omega)) (hF _ (by omega) (by omega) (by omega))) (fun q hq => ⟨gK_o (by omega), gK_o (by omega), gK_o (by omega)⟩)
      · have hi2 : i < s 116 0 := hi
        rw [hF _ (by omega) (by omega) (by omega), show 288 + 32 * x + 28 + i = 288 + 32 * x + (28 + i) by omega, e2 _ (by omega), show 288 + 32 * x + (28 + i) = 288 + 32 * x + 28 + i by omega]
        exact hx3.2 i hi2
  · exact h.se.eq (fun a h1 h2 => e a (by omega))
/-! back -/
def sBk (s : Nat → Nat → Nat) : Nat → Nat → Nat := va_up (va_up s 122 (zCopy (s 122) (288 + 32 * (s 109 19 - 1)) 0)) 109 (va_up (va_up (s 109) 19 (s 109 19 - 1)) 18 0)
theorem RInv.back {s : Nat → Nat → Nat} (hR : RInv s) (hk : 1 ≤ s 109 19) : RInv (sBk s) := hR.backTo (b := 288 + 32 * (s 109 19 - 1)) (d := 0) (k := s 109 19 - 1) (hR.2.2.2.2.2 _ (by omega)) (by omega) (by omega) rfl
theorem CR.back {t k : Nat} {s : Nat → Nat → Nat} {I J : AI} (ht : t = 5 ∨ t = 36) (h : CR t s I) (hR : RInv s) (hk : s 109 19 = k + 1) (hF : ∀ a, a ≠ 80 → a ≠ 74 → (a < t + 22 ∨ t + 31 ≤ a) → J a = I a) (hF2 : ∀ a, t + 26 ≤ a → a < t + 30 → J a = I a) (h80 : J 80 2 = nI k) (h74 : J 74 5 = nI 0 ∧ J 74 6 = nI 0) (hS : CSg (s 122 (288 + 32 * k)) (sgC s (288 + 32 * k)) (sgT s (288 + 32 * k)) (sgN s (288 + 32 * k)) J (t + 22)) (hT : ∀ i, i < 4 → J (t + 30) i = I (83 + k) i) : CR t (sBk s) J := by
  have hw : s 116 0 ≤ 4 := hR.1.2.1.1
  have hk2 := hR.2.1.2.1
  have e : ∀ a, a ≠ 80 → a ≠ 74 → (a < t + 22 ∨ t + 31 ≤ a) → J a = I a := hF
  have hb := hR.2.2.2.2.2 k (by omega)
  have hsf := h.sf.2.2 k (by omega)
  have g : ∀ j, j < 32 → sBk s 122 j = s 122 (288 + 32 * k + j) := fun j hj => by
    show zCopy (s 122) (288 + 32 * (s 109 19 - 1)) 0 j = _
    rw [gB_j hj, show s 109 19 - 1 = k by omega]
  refine ⟨h.tx.eq (e 1 (by omega) (by omega) (by omega)) (e 2 (by omega) (by omega) (by omega)), h.st.eq (e _ (by omega) (by omega) (by omega)) (fun a ha => e _ (by omega) (by omega) (by omega)) (fun a ha => e _ (by omega) (by omega) (by omega)), h.sr.eq (fun a h1 h2 => e a (by omega) (by omega) (by omega)), ?_, ?_, ?_, ?_, ?_, ?_⟩
  · rw [g 0 (by omega), Nat.add_zero]
    have hb1 := hb.1
    exact CSg.c hS (fun q hq => ⟨(g _ (by omega)).trans (congrArg (s 122) (by omega)), (g _ (by omega)).trans (congrArg (s 122) (by omega)), (g _ (by omega)).trans (congrArg (s 122) (by omega))⟩)
  · obtain ⟨w1, w2, w3⟩ := h.wk
    refine ⟨by rw [hF2 _ (by omega) (by omega)]; exact w1, w2, fun i hi => ?_⟩
    have hi2 : i < s 116 0 := hi
    have w := w3 i hi2
    rw [hF2 (t + 26 + 1) (by omega) (by omega), hF2 (t + 26 + 2) (by omega) (by omega), hF2 (t + 26 + 3) (by omega) (by omega)]
    have e9 : sBk s 122 (28 + i) = s 122 (288 + 32 * k + 28 + i) := (g _ (by omega)).trans (congrArg (s 122) (by omega))
    refine ⟨⟨w.1.1, w.1.2.1, w.1.2.2.1, ?_⟩, w.2.1, w.2.2.1, w.2.2.2.1, ?_⟩
    · show J (t + 30) i = nI (sBk s 122 (28 + i))
      rw [hT i (by omega), e9]
      exact hsf.2 i hi2
    · show sBk s 122 (28 + i) < 8
      rw [e9]
      exact hb.2.2 i hi2
  · rw [e t (by omega) (by omega) (by omega)]; exact h.rt
  · exact ⟨0, by omega, h74.1, h74.2, by show (0 : Nat) ≤ 8; omega, fun x hx => by have : x < 0 := hx; omega⟩
  · refine ⟨by show J 80 2 = nI (s 109 19 - 1); rw [show s 109 19 - 1 = k by omega]; exact h80, by show s 109 19 - 1 ≤ 2; omega, fun x hx => ?_⟩
    have hx2 : x < s 109 19 - 1 := hx
    have hx3 := h.sf.2.2 x (by omega)
    have hb8 := (hR.2.2.2.2.2 x (by omega)).1
    have e3 : sBk s 122 (288 + 32 * x) = s 122 (288 + 32 * x) := gB_o (by omega)
    refine ⟨?_, fun i hi => ?_⟩
    · rw [e3]
      exact CSg.c (hx3.1.eq (hF _ (by omega) (by omega) (by omega)) (hF _ (by omega) (by omega) (by omega)) (hF _ (by omega) (by omega) (by omega)) (hF _ (by omega) (by omega) (by omega))) (fun q hq => ⟨gB_o (by omega), gB_o (by omega), gB_o (by omega)⟩)
    · have hi2 : i < s 116 0 := hi
      rw [hF _ (by omega) (by omega) (by omega)]
      exact (hx3.2 i hi2).trans (congrArg nI (gB_o (by omega)).symm)
  · exact h.se.eq (fun a h1 h2 => e a (by omega) (by omega) (by omega))
/-! text and sightings -/
theorem CR.write {t q : Nat} {s : Nat → Nat → Nat} {I : AI} (ht : t = 5 ∨ t = 36) (h : CR t s I) (hq : q ≤ 126) (hn : s 109 1 < 200) : CR t (zuN (zuN s 110 (s 109 1) q) 109 1 (s 109 1 + 1)) (zu (zu I 2 (s 109 1) (nI q)) 1 1 (nI (s 109 1 + 1))) := by
  have e : ∀ a, a ≠ 1 → a ≠ 2 → zu (zu I 2 (s 109 1) (nI q)) 1 1 (nI (s 109 1 + 1)) a = I a := fun a h1 h2 => (zu_o _ _ h1).trans (zu_o _ _ h2)
  refine ⟨⟨zu_s _ _ _ _, by show s 109 1 + 1 ≤ 200; omega, fun k hk => ?_⟩, h.st.eq (e _ (by omega) (by omega)) (fun a ha => e _ (by omega) (by omega)) (fun a ha => e _ (by omega) (by omega)), h.sr.eq (fun a h1 h2 => e a (by omega) (by omega)), h.sg.eq (e _ (by omega) (by omega)) (e _ (by omega) (by omega)) (e _ (by omega) (by omega)) (e _ (by omega) (by omega)), h.wk.eq (e _ (by omega) (by omega)) (e _ (by omega) (by omega)) (e _ (by omega) (by omega)) (e _ (by omega) (by omega)) (e _ (by omega) (by omega)), by rw [e t (by omega) (by omega)]; exact h.rt, h.lg.eq (fun a h1 h2 => e a (by omega) (by omega)), h.sf.eq (fun a h1 h2 => e a (by omega) (by omega)), h.se.eq (fun a h1 h2 => e a (by omega) (by omega))⟩
  have hk2 : k < s 109 1 + 1 := hk
  show zu (zu I 2 (s 109 1) (nI q)) 1 1 (nI (s 109 1 + 1)) 2 k = nI (va_up (s 110) (s 109 1) q k) ∧ va_up (s 110) (s 109 1) q k ≤ 126
  rw [zu_o _ _ (by decide)]
  by_cases e2 : k = s 109 1
  · rw [e2, zu_s, va_up_s]; exact ⟨rfl, hq⟩
  · rw [zu_n _ _ e2, va_up_n _ _ e2]; exact h.tx.2.2 k (by omega)
theorem RInv.write {q : Nat} {s : Nat → Nat → Nat} (hR : RInv s) (hq : q ≤ 126) (hn : s 109 1 < 200) : RInv (zuN (zuN s 110 (s 109 1) q) 109 1 (s 109 1 + 1)) := by
  obtain ⟨a, ⟨b1, b2, b3, b4⟩, c1, c2, c3, c4⟩ := hR
  refine ⟨a, ⟨b1, b2, b3, by show s 109 1 + 1 ≤ 200; omega⟩, fun k hk => ?_, c2, c3, c4⟩
  have hk2 : k < s 109 1 + 1 := hk
  show va_up (s 110) (s 109 1) q k ≤ 126
  by_cases e2 : k = s 109 1
  · rw [e2, va_up_s]; exact hq
  · rw [va_up_n _ _ e2]; exact c1 k (by omega)
theorem CR.wipe {t : Nat} {s : Nat → Nat → Nat} {I : AI} (ht : t = 5 ∨ t = 36) (h : CR t s I) : CR t (zuN s 109 1 0) (zu I 1 1 (nI 0)) := by
  have e : ∀ a, a ≠ 1 → zu I 1 1 (nI 0) a = I a := fun a h1 => zu_o _ _ h1
  exact ⟨⟨zu_s _ _ _ _, by show (0 : Nat) ≤ 200; omega, fun k hk => by have : k < 0 := hk; omega⟩, h.st.eq (e _ (by omega)) (fun a ha => e _ (by omega)) (fun a ha => e _ (by omega)), h.sr.eq (fun a h1 h2 => e a (by omega)), h.sg.eq (e _ (by omega)) (e _ (by omega)) (e _ (by omega)) (e _ (by omega)), h.wk.eq (e _ (by omega)) (e _ (by omega)) (e _ (by omega)) (e _ (by omega)) (e _ (by omega)), by rw [e t (by omega)]; exact h.rt, h.lg.eq (fun a h1 h2 => e a (by omega)), h.sf.eq (fun a h1 h2 => e a (by omega)), h.se.eq (fun a h1 h2 => e a (by omega))⟩
theorem RInv.wipe {s : Nat → Nat → Nat} (hR : RInv s) : RInv (zuN s 109 1 0) := by
  obtain ⟨a, ⟨b1, b2, b3, b4⟩, c1, c2, c3, c4⟩ := hR
  exact ⟨a, ⟨b1, b2, b3, by show (0 : Nat) ≤ 200; omega⟩, fun k hk => by have : k < 0 := hk; omega, c2, c3, c4⟩
theorem CR.forget {t : Nat} {s : Nat → Nat → Nat} {I : AI} (ht : t = 5 ∨ t = 36) (h : CR t s I) : CR t (zuN s 109 33 0) (zu I 93 3 (nI 0)) := by
  have e : ∀ a, a ≠ 93 → zu I 93 3 (nI 0) a = I a := fun a h1 => zu_o _ _ h1
  exact ⟨h.tx.eq (e 1 (by omega)) (e 2 (by omega)), h.st.eq (e _ (by omega)) (fun a ha => e _ (by omega)) (fun a ha => e _ (by omega)), h.sr.eq (fun a h1 h2 => e a (by omega)), h.sg.eq (e _ (by omega)) (e _ (by omega)) (e _ (by omega)) (e _ (by omega)), h.wk.eq (e _ (by omega)) (e _ (by omega)) (e _ (by omega)) (e _ (by omega)) (e _ (by omega)), by rw [e t (by omega)]; exact h.rt, h.lg.eq (fun a h1 h2 => e a (by omega)), h.sf.eq (fun a h1 h2 => e a (by omega)), ⟨zu_s _ _ _ _, by show (0 : Nat) ≤ 8; omega, fun k hk => by have : k < 0 := hk; omega⟩⟩
theorem RInv.forget {s : Nat → Nat → Nat} (hR : RInv s) : RInv (zuN s 109 33 0) := by
  obtain ⟨a, ⟨b1, b2, b3, b4⟩, c1, c2, c3, c4⟩ := hR
  exact ⟨a, ⟨b1, b2, by show (0 : Nat) ≤ 8; omega, b4⟩, c1, fun k hk => by have : k < 0 := hk; omega, c3, c4⟩
def sSn (s : Nat → Nat → Nat) (x y z : Nat) : Nat → Nat → Nat := zuN (zuN (zuN (zuN s 128 (s 109 33) x) 129 (s 109 33) y) 130 (s 109 33) z) 109 33 (s 109 33 + 1)
theorem CR.seen {t x y z : Nat} {s : Nat → Nat → Nat} {I : AI} (ht : t = 5 ∨ t = 36) (h : CR t s I) (hn : s 109 33 < 8) (hx : x < 8) (hy : y < 8) (hz : z ≤ 30) : CR t (sSn s x y z) (zu (zu (zu (zu I 94 (s 109 33) (nI x)) 95 (s 109 33) (nI y)) 96 (s 109 33) (nI z)) 93 3 (nI (s 109 33 + 1))) := by
  have e : ∀ a, (a < 93 ∨ 96 < a) → zu (zu (zu (zu I 94 (s 109 33) (nI x)) 95 (s 109 33) (nI y)) 96 (s 109 33) (nI z)) 93 3 (nI (s 109 33 + 1)) a = I a := fun a h1 => (zu_o _ _ (by omega)).trans ((zu_o _ _ (by omega)).trans ((zu_o _ _ (by omega)).trans (zu_o _ _ (by omega))))
  refine ⟨h.tx.eq (e 1 (by omega)) (e 2 (by omega)), h.st.eq (e _ (by omega)) (fun a ha => e _ (by omega)) (fun a ha => e _ (by omega)), h.sr.eq (fun a h1 h2 => e a (by omega)), h.sg.eq (e _ (by omega)) (e _ (by omega)) (e _ (by omega)) (e _ (by omega)), h.wk.eq (e _ (by omega)) (e _ (by omega)) (e _ (by omega)) (e _ (by omega)) (e _ (by omega)), by rw [e t (by omega)]; exact h.rt, h.lg.eq (fun a h1 h2 => e a (by omega)), h.sf.eq (fun a h1 h2 => e a (by omega)), ⟨zu_s _ _ _ _, by show s 109 33 + 1 ≤ 8; omega, fun k hk => ?_⟩⟩
  have hk2 : k < s 109 33 + 1 := hk
  show (zu I 94 (s 109 33) (nI x) 94 k = nI (va_up (s 128) (s 109 33) x k) ∧ zu (zu I 94 (s 109 33) (nI x)) 95 (s 109 33) (nI y) 95 k = nI (va_up (s 129) (s 109 33) y k) ∧ zu (zu (zu I 94 (s 109 33) (nI x)) 95 (s 109 33) (nI y)) 96 (s 109 33) (nI z) 96 k = nI (va_up (s 130) (s 109 33) z k)) ∧ va_up (s 128) (s 109 33) x k < 8 ∧ va_up (s 129) (s 109 33) y k < 8 ∧ va_up (s 130) (s 109 33) z k ≤ 30
  by_cases e2 : k = s 109 33
  · rw [e2, zu_s, zu_s, zu_s, va_up_s, va_up_s, va_up_s]
    exact ⟨⟨rfl, rfl, rfl⟩, hx, hy, hz⟩
  · rw [zu_n _ _ e2, zu_n _ _ e2, zu_n _ _ e2, va_up_n _ _ e2, va_up_n _ _ e2, va_up_n _ _ e2]
    exact h.se.2.2 k (by omega)
theorem RInv.seen {x y z : Nat} {s : Nat → Nat → Nat} (hR : RInv s) (hn : s 109 33 < 8) (hx : x < 8) (hy : y < 8) (hz : z ≤ 30) : RInv (sSn s x y z) := by
  obtain ⟨a, ⟨b1, b2, b3, b4⟩, c1, c2, c3, c4⟩ := hR
  refine ⟨a, ⟨b1, b2, by show s 109 33 + 1 ≤ 8; omega, b4⟩, c1, fun k hk => ?_, c3, c4⟩
  have hk2 : k < s 109 33 + 1 := hk
  show va_up (s 128) (s 109 33) x k < 8 ∧ va_up (s 129) (s 109 33) y k < 8 ∧ va_up (s 130) (s 109 33) z k ≤ 30
  by_cases e2 : k = s 109 33
  · rw [e2, va_up_s, va_up_s, va_up_s]; exact ⟨hx, hy, hz⟩
  · rw [va_up_n _ _ e2, va_up_n _ _ e2, va_up_n _ _ e2]; exact c2 k (by omega)
