/-! PURE: changes of the state, on both sides -/
theorem zKnow_b {f : Nat → Nat} {d e j : Nat} (hd : d ≤ 8) (he : e < zNd d) (hj : j < 32) : zKnow f d (32 + 32 * e + j) = f (32 + 32 * (e + if d = 8 then 1 else 0) + j) := by
  unfold zNd at he
  unfold zKnow
  by_cases h8 : d = 8
  · rw [if_pos h8] at he ⊢
    rw [if_pos h8]
    unfold zCopy zShift
    rw [if_neg (by omega), if_pos (by omega)]
    exact congrArg f (by omega)
  · rw [if_neg h8] at he ⊢
    rw [if_neg h8]
    unfold zCopy
    rw [if_neg (by omega)]
    exact congrArg f (by omega)
theorem zKnow_n {f : Nat → Nat} {d j : Nat} (hd : d ≤ 8) (hj : j < 32) : zKnow f d (32 + 32 * zNd d + j) = f j := by
  unfold zNd zKnow
  by_cases h8 : d = 8
  · rw [if_pos h8, if_pos h8]
    unfold zCopy zShift
    rw [if_pos (by omega), if_neg (by omega)]
    exact congrArg f (by omega)
  · rw [if_neg h8, if_neg h8]
    unfold zCopy
    rw [if_pos (by omega)]
    exact congrArg f (by omega)
theorem zKnow_hi {f : Nat → Nat} {d k : Nat} (hd : d ≤ 8) (hk : 288 ≤ k) : zKnow f d k = f k := by
  unfold zKnow
  by_cases h8 : d = 8
  · rw [if_pos h8]
    unfold zCopy zShift
    rw [if_neg (by omega), if_neg (by omega)]
  · rw [if_neg h8]
    unfold zCopy
    rw [if_neg (by omega)]
theorem zKd_nd {d : Nat} (hd : d ≤ 8) : zKd d = zNd d + 1 := by
  unfold zKd zNd
  by_cases h8 : d = 8
  · rw [if_pos h8, if_pos h8]
  · rw [if_neg h8, if_neg h8]
theorem LogR.push {s s2 : Nat → Nat → Nat} {I J : AI} {o : Nat} {x1 x2 x3 x4 x5 : Int32} (ho : o < 8) (hd : s 109 18 ≤ 8) (hE : ∀ e, e < s 109 18 → Rev (s 116 0) (Bk (s 122) (32 + 32 * e)) (Bk (s 122) (zNb (s 109 18) e)) (I 75 ((o + e) % 8)) (I 76 ((o + e) % 8)) (I 77 ((o + e) % 8)) (I 78 ((o + e) % 8)) (I 79 ((o + e) % 8))) (hN : zNote o (s 109 18) x1 x2 x3 x4 x5 I J) (h18 : s2 109 18 = zKd (s 109 18)) (h116 : s2 116 0 = s 116 0) (hw : s 116 0 ≤ 4) (hb : ∀ e, e < s 109 18 → s 122 (32 + 32 * e) ≤ 8) (hb0 : s 122 0 ≤ 8)
    (hg1 : ∀ e, e < zNd (s 109 18) → ∀ j, j < 32 → s2 122 (32 + 32 * e + j) = s 122 (32 + 32 * (e + if s 109 18 = 8 then 1 else 0) + j)) (hg2 : ∀ j, j < 32 → s2 122 (32 + 32 * zNd (s 109 18) + j) = s 122 j) (hrev : Rev (s 116 0) (Bk (s 122) 0) (Bk (s2 122) 0) x1 x2 x3 x4 x5) : LogR s2 J := by
  have hkd := zKd_nd hd
  have hnd : zNd (s 109 18) ≤ 7 := by unfold zNd; split <;> omega
  have hno : zNo (s 109 18) o < 8 := by unfold zNo; split <;> omega
  refine ⟨zNo (s 109 18) o, hno, hN.2.1, by rw [h18, hkd]; exact hN.2.2.1, by rw [h18, hkd]; omega, fun e he => ?_⟩
  rw [h18, hkd] at he
  rw [h18, hkd, h116]
  have hJ := hN.2.2.2 ((zNo (s 109 18) o + e) % 8)
  rw [hJ.1, hJ.2.1, hJ.2.2.1, hJ.2.2.2.1, hJ.2.2.2.2]
  by_cases e1 : e = zNd (s 109 18)
  · subst e1
    rw [if_pos rfl, if_pos rfl, if_pos rfl, if_pos rfl, if_pos rfl]
    refine hrev.c hw (by show s 122 (0 + 0) ≤ 8; exact hb0) (fun j hj => ?_) (fun j hj => ?_)
    · show s2 122 (32 + 32 * zNd (s 109 18) + j) = s 122 (0 + j)
      rw [hg2 j hj, Nat.zero_add]
    · unfold zNb
      rw [if_neg (by omega)]
  · have hne : ¬ (zNo (s 109 18) o + e) % 8 = (zNo (s 109 18) o + zNd (s 109 18)) % 8 := by omega
    rw [if_neg hne, if_neg hne, if_neg hne, if_neg hne, if_neg hne]
    have he2 : e < zNd (s 109 18) := by omega
    by_cases h8 : s 109 18 = 8
    · have hz : zNd (s 109 18) = 7 := by unfold zNd; rw [if_pos h8]
      have hs : (zNo (s 109 18) o + e) % 8 = (o + (e + 1)) % 8 := by unfold zNo; rw [if_pos h8]; omega
      rw [hs]
      have h9 := hE (e + 1) (by omega)
      refine h9.c hw (by show s 122 (32 + 32 * (e + 1) + 0) ≤ 8; exact hb (e + 1) (by omega)) (fun j hj => ?_) (fun j hj => ?_)
      · show s2 122 (32 + 32 * e + j) = _
        rw [hg1 e he2 j hj, if_pos h8]
        rfl
      · show s2 122 (zNb (zNd (s 109 18) + 1) e + j) = s 122 (zNb (s 109 18) (e + 1) + j)
        unfold zNb
        rw [if_pos (by omega)]
        by_cases e3 : e + 1 < zNd (s 109 18)
        · rw [hg1 (e + 1) e3 j hj, if_pos h8, if_pos (by omega)]
        · have e4 : e + 1 = zNd (s 109 18) := by omega
          rw [e4, hg2 j hj, if_neg (by omega), Nat.zero_add]
    · have hz : zNd (s 109 18) = s 109 18 := by unfold zNd; rw [if_neg h8]
      have hs : zNo (s 109 18) o = o := by unfold zNo; rw [if_neg h8]
      rw [hs]
      have h9 := hE e (by omega)
      refine h9.c hw (by show s 122 (32 + 32 * e + 0) ≤ 8; exact hb e (by omega)) (fun j hj => ?_) (fun j hj => ?_)
      · show s2 122 (32 + 32 * e + j) = _
        rw [hg1 e he2 j hj, if_neg h8]
        rfl
      · show s2 122 (zNb (zNd (s 109 18) + 1) e + j) = s 122 (zNb (s 109 18) e + j)
        unfold zNb
        rw [if_pos (by omega)]
        by_cases e3 : e + 1 < zNd (s 109 18)
        · rw [hg1 (e + 1) e3 j hj, if_neg h8, if_pos (by omega)]
        · have e4 : e + 1 = zNd (s 109 18) := by omega
          rw [e4, hg2 j hj, if_neg (by omega), Nat.zero_add]
theorem BlkOk.c {s s2 : Nat → Nat → Nat} {b b2 : Nat} (h : BlkOk s b) (hw : s 116 0 ≤ 4) (h116 : s2 116 0 = s 116 0) (e : ∀ j, j < 32 → s2 122 (b2 + j) = s 122 (b + j)) : BlkOk s2 b2 := by
  obtain ⟨h1, h2, h3⟩ := h
  have e0 : s2 122 b2 = s 122 b := e 0 (by omega)
  refine ⟨by rw [e0]; exact h1, ⟨by rw [e0]; exact h2.1, fun k hk => ?_⟩, fun i hi => ?_⟩
  · rw [e0] at hk
    have := h2.2 k hk
    refine ⟨?_, ?_, ?_⟩
    · show s2 122 (b2 + 1 + 3 * k) < 8
      rw [show b2 + 1 + 3 * k = b2 + (1 + 3 * k) by omega, e _ (by omega), show b + (1 + 3 * k) = b + 1 + 3 * k by omega]; exact this.1
    · show s2 122 (b2 + 1 + 3 * k + 1) < 8
      rw [show b2 + 1 + 3 * k + 1 = b2 + (1 + 3 * k + 1) by omega, e _ (by omega), show b + (1 + 3 * k + 1) = b + 1 + 3 * k + 1 by omega]; exact this.2.1
    · show s2 122 (b2 + 1 + 3 * k + 2) < 8
      rw [show b2 + 1 + 3 * k + 2 = b2 + (1 + 3 * k + 2) by omega, e _ (by omega), show b + (1 + 3 * k + 2) = b + 1 + 3 * k + 2 by omega]; exact this.2.2
  · rw [h116] at hi
    rw [show b2 + 28 + i = b2 + (28 + i) by omega, e _ (by omega), show b + (28 + i) = b + 28 + i by omega]
    exact h3 i hi
/-- shelf and numbers, where row 122 from 288 on stays -/
theorem ShR.c {s s2 : Nat → Nat → Nat} {I : AI} (h : ShR s I) (h19 : s2 109 19 = s 109 19) (h116 : s2 116 0 = s 116 0) (hw : s 116 0 ≤ 4) (hb : ∀ e, e < s 109 19 → s 122 (288 + 32 * e) ≤ 8) (e : ∀ k, 288 ≤ k → k < 352 → s2 122 k = s 122 k) : ShR s2 I := by
  obtain ⟨h1, h2, h3⟩ := h
  refine ⟨by rw [h19]; exact h1, by rw [h19]; exact h2, fun x hx => ?_⟩
  rw [h19] at hx
  have hx3 := h3 x hx
  have hb2 := hb x hx
  have e0 : s2 122 (288 + 32 * x) = s 122 (288 + 32 * x) := e _ (by omega) (by omega)
  refine ⟨?_, fun i hi => ?_⟩
  · rw [e0]
    exact CSg.c hx3.1 (fun k hk => ⟨e _ (by omega) (by omega), e _ (by omega) (by omega), e _ (by omega) (by omega)⟩)
  · rw [h116] at hi
    rw [e _ (by omega) (by omega)]
    exact hx3.2 i hi
/-- a new row 122, behind the state as it stood -/
def zNw (s : Nat → Nat → Nat) (g : Nat → Nat) : Prop := ∀ k, 32 ≤ k → g k = zKnow (s 122) (s 109 18) k
theorem sSet_18 {s : Nat → Nat → Nat} {g : Nat → Nat} {d : Nat} : sSet s g d 109 18 = d := rfl
theorem RInv.push {s : Nat → Nat → Nat} {g : Nat → Nat} (h : RInv s) (hg : zNw s g) (h0 : BlkOk (sSet s g (zKd (s 109 18))) 0) : RInv (sSet s g (zKd (s 109 18))) := by
  obtain ⟨⟨a1, a2, a3, a4, a5, a6⟩, ⟨b1, b2, b3, b4⟩, c1, c2, c3, c4⟩ := h
  have hw : s 116 0 ≤ 4 := a2.1
  have hnd : zNd (s 109 18) ≤ 7 := by unfold zNd; split <;> omega
  refine ⟨⟨a1, a2, h0, a4, a5, a6⟩, ⟨by show zKd (s 109 18) ≤ 8; rw [zKd_nd b1]; omega, b2, b3, b4⟩, c1, c2, fun e he => ?_, fun e he => ?_⟩
  · have he2 : e < zKd (s 109 18) := he
    rw [zKd_nd b1] at he2
    by_cases e1 : e = zNd (s 109 18)
    · exact BlkOk.c (s := s) (b := 0) a3 hw rfl (fun j hj => by
        show g (32 + 32 * e + j) = s 122 (0 + j)
        rw [hg _ (by omega), e1, zKnow_n b1 hj, Nat.zero_add])
    · refine BlkOk.c (s := s) (b := 32 + 32 * (e + if s 109 18 = 8 then 1 else 0)) (c3 _ ?_) hw rfl (fun j hj => by
        show g (32 + 32 * e + j) = _
        rw [hg _ (by omega), zKnow_b b1 (by omega) hj])
      have : e < zNd (s 109 18) := by omega
      unfold zNd at this
      by_cases h8 : s 109 18 = 8
      · rw [if_pos h8] at this ⊢; omega
      · rw [if_neg h8] at this ⊢; omega
  · have he2 : e < s 109 19 := he
    exact BlkOk.c (s := s) (c4 e he2) hw rfl (fun j hj => by
      show g (288 + 32 * e + j) = _
      rw [hg _ (by omega), zKnow_hi b1 (by omega)])
/-- the state changed, and how it stood noted: what the system has then -/
theorem CR.push {t : Nat} {s : Nat → Nat → Nat} {I K J : AI} {g : Nat → Nat} {o : Nat} {x1 x2 x3 x4 x5 : Int32} (ht : t = 5 ∨ t = 36) (h : CR t s I) (hR : RInv s) (hg : zNw s g) (ho : o < 8) (hE : ∀ e, e < s 109 18 → Rev (s 116 0) (Bk (s 122) (32 + 32 * e)) (Bk (s 122) (zNb (s 109 18) e)) (I 75 ((o + e) % 8)) (I 76 ((o + e) % 8)) (I 77 ((o + e) % 8)) (I 78 ((o + e) % 8)) (I 79 ((o + e) % 8))) (hN : zNote o (s 109 18) x1 x2 x3 x4 x5 I K) (hrev : Rev (s 116 0) (Bk (s 122) 0) (Bk g 0) x1 x2 x3 x4 x5)
    (hF : ∀ a, (a < t + 22 ∨ t + 31 ≤ a) → J a = K a) (hS : CSg (g 0) (fun k => g (0 + 1 + 3 * k)) (fun k => g (0 + 1 + 3 * k + 1)) (fun k => g (0 + 1 + 3 * k + 2)) J (t + 22)) (hW : CWk (s 116 0) (s 117) (s 118) (s 119) (fun i => g (28 + i)) J (t + 26)) : CR t (sSet s g (zKd (s 109 18))) J := by
  have hd := hR.2.1.1
  have hw : s 116 0 ≤ 4 := hR.1.2.1.1
  have e : ∀ a, (a < 74 ∨ 79 < a) → (a < t + 22 ∨ t + 31 ≤ a) → J a = I a := fun a h1 h2 => (hF a h2).trans (hN.1 a h1)
  refine ⟨h.tx.eq (e 1 (by omega) (by omega)) (e 2 (by omega) (by omega)), h.st.eq (e _ (by omega) (by omega)) (fun a ha => e _ (by omega) (by omega)) (fun a ha => e _ (by omega) (by omega)), h.sr.eq (fun a h1 h2 => e a (by omega) (by omega)), hS, hW, ?_, ?_, ?_, ?_⟩
  · rw [e t (by omega) (by omega)]; exact h.rt
  · have hl : LogR (sSet s g (zKd (s 109 18))) K := LogR.push ho hd hE hN rfl rfl hw (fun x hx => (hR.2.2.2.2.1 x hx).1) hR.1.2.2.1.1 (fun x hx j hj => by
      show g (32 + 32 * x + j) = _
      rw [hg _ (by omega), zKnow_b hd hx hj]) (fun j hj => by
      show g (32 + 32 * zNd (s 109 18) + j) = _
      rw [hg _ (by omega), zKnow_n hd hj]) hrev
    exact hl.eq (fun a h1 h2 => hF a (by omega))
  · exact ShR.c (h.sf.eq (fun a h1 h2 => e a (by omega) (by omega))) rfl rfl hw (fun x hx => (hR.2.2.2.2.2 x hx).1) (fun k h1 h2 => by
      show g k = s 122 k
      rw [hg _ (by omega), zKnow_hi hd h1])
  · exact h.se.eq (fun a h1 h2 => e a (by omega) (by omega))
/-! put, take, tell -/
theorem gU_lo {f : Nat → Nat} {d c a n k : Nat} (h0 : f 0 ≤ 8) (hk : k < 32) (h1 : k ≠ 0) (h2 : k ≠ 1 + 3 * f 0) (h3 : k ≠ 1 + 3 * f 0 + 1) (h4 : k ≠ 1 + 3 * f 0 + 2) : zPutUp (zKnow f d) 0 c a n k = f k := by
  unfold zPutUp
  rw [zKnow_lo (show 0 < 32 by omega), va_up_n _ _ h1, va_up_n _ _ (by omega), va_up_n _ _ (by omega), va_up_n _ _ (by omega), zKnow_lo hk]
theorem gU_0 {f : Nat → Nat} {d c a n : Nat} : zPutUp (zKnow f d) 0 c a n 0 = f 0 + 1 := by unfold zPutUp; rw [va_up_s, zKnow_lo (by omega)]
theorem gU_n {f : Nat → Nat} {d c a n : Nat} (h0 : f 0 ≤ 8) : zPutUp (zKnow f d) 0 c a n (0 + 1 + 3 * f 0) = c ∧ zPutUp (zKnow f d) 0 c a n (0 + 1 + 3 * f 0 + 1) = a ∧ zPutUp (zKnow f d) 0 c a n (0 + 1 + 3 * f 0 + 2) = n := by
  unfold zPutUp
  rw [zKnow_lo (show 0 < 32 by omega)]
  refine ⟨?_, ?_, ?_⟩
  · rw [va_up_n _ _ (by omega), va_up_n _ _ (by omega), va_up_n _ _ (by omega), va_up_s]
  · rw [va_up_n _ _ (by omega), va_up_n _ _ (by omega), va_up_s]
  · rw [va_up_n _ _ (by omega), va_up_s]
theorem gU_w {s : Nat → Nat → Nat} {c a n : Nat} (h0 : s 122 0 ≤ 8) : zNw s (zPutUp (zKnow (s 122) (s 109 18)) 0 c a n) := fun k hk => by
  unfold zPutUp
  rw [zKnow_lo (show 0 < 32 by omega), va_up_n _ _ (by omega), va_up_n _ _ (by omega), va_up_n _ _ (by omega), va_up_n _ _ (by omega)]
theorem CR.put {t : Nat} {s : Nat → Nat → Nat} {I K J : AI} {o c a n : Nat} (ht : t = 5 ∨ t = 36) (h : CR t s I) (hR : RInv s) (ho : o < 8) (hE : ∀ e, e < s 109 18 → Rev (s 116 0) (Bk (s 122) (32 + 32 * e)) (Bk (s 122) (zNb (s 109 18) e)) (I 75 ((o + e) % 8)) (I 76 ((o + e) % 8)) (I 77 ((o + e) % 8)) (I 78 ((o + e) % 8)) (I 79 ((o + e) % 8))) (hN : zNote o (s 109 18) (nI 0) (nI (s 122 0)) (nI c) (nI a) (nI n) I K) (hm : s 122 0 < 8) (hF : zGf (t + 22) K J) (hS : CSg (s 122 0 + 1) (insN (sgC s 0) (s 122 0) c) (insN (sgT s 0) (s 122 0) a) (insN (sgN s 0) (s 122 0) n) J (t + 22)) : CR t (sSet s (zPutUp (zKnow (s 122) (s 109 18)) 0 c a n) (zKd (s 109 18))) J := by
  have hw : s 116 0 ≤ 4 := hR.1.2.1.1
  refine CR.push ht h hR (gU_w (by omega)) ho hE hN (Or.inl ⟨rfl, rfl, ?_, fun j h1 h2 => ?_, fun i hi => ?_⟩) (fun x hx => hF x (by omega) (by omega) (by omega) (by omega)) ?_ ?_
  · show zPutUp (zKnow (s 122) (s 109 18)) 0 c a n (0 + 0) = s 122 (0 + 0) + 1
    rw [Nat.zero_add]; exact gU_0
  · have h2' : j < 1 + 3 * s 122 0 := h2
    show s 122 (0 + j) = zPutUp (zKnow (s 122) (s 109 18)) 0 c a n (0 + j)
    rw [Nat.zero_add, gU_lo (by omega) (by omega) (by omega) (by omega) (by omega) (by omega)]
  · show s 122 (0 + (28 + i)) = zPutUp (zKnow (s 122) (s 109 18)) 0 c a n (0 + (28 + i))
    rw [Nat.zero_add, gU_lo (by omega) (by omega) (by omega) (by omega) (by omega) (by omega)]
  · rw [gU_0]
    refine CSg.c hS (fun k hk => ?_)
    unfold insN
    by_cases e : k < s 122 0
    · rw [if_pos e, if_pos e, if_pos e, gU_lo (by omega) (by omega) (by omega) (by omega) (by omega) (by omega), gU_lo (by omega) (by omega) (by omega) (by omega) (by omega) (by omega), gU_lo (by omega) (by omega) (by omega) (by omega) (by omega) (by omega)]
      exact ⟨rfl, rfl, rfl⟩
    · have e2 : k = s 122 0 := by omega
      rw [if_neg e, if_neg e, if_neg e, if_pos e2, if_pos e2, if_pos e2, e2]
      exact gU_n (by omega)
  · have hW := h.wk.eq (J := J) ((hF _ (by omega) (by omega) (by omega) (by omega)).trans (hN.1 _ (by omega))) ((hF _ (by omega) (by omega) (by omega) (by omega)).trans (hN.1 _ (by omega))) ((hF _ (by omega) (by omega) (by omega) (by omega)).trans (hN.1 _ (by omega))) ((hF _ (by omega) (by omega) (by omega) (by omega)).trans (hN.1 _ (by omega))) ((hF _ (by omega) (by omega) (by omega) (by omega)).trans (hN.1 _ (by omega)))
    exact CWk.c hW (fun i hi => ⟨rfl, rfl, rfl, gU_lo (by omega) (by omega) (by omega) (by omega) (by omega) (by omega)⟩)
theorem RInv.put {s : Nat → Nat → Nat} {c a n : Nat} (hR : RInv s) (hm : s 122 0 < 8) (hc : c < 8) (ha : a < 8) (hn : n < 8) : RInv (sSet s (zPutUp (zKnow (s 122) (s 109 18)) 0 c a n) (zKd (s 109 18))) := by
  have hw : s 116 0 ≤ 4 := hR.1.2.1.1
  obtain ⟨b1, b2, b3⟩ := hR.1.2.2.1
  refine hR.push (gU_w (by omega)) ⟨?_, ⟨?_, fun k hk => ?_⟩, fun i hi => ?_⟩
  · show zPutUp (zKnow (s 122) (s 109 18)) 0 c a n 0 ≤ 8
    rw [gU_0]; omega
  · show zPutUp (zKnow (s 122) (s 109 18)) 0 c a n 0 ≤ 9
    rw [gU_0]; omega
  · have hk2 : k < zPutUp (zKnow (s 122) (s 109 18)) 0 c a n 0 := hk
    rw [gU_0] at hk2
    show zPutUp (zKnow (s 122) (s 109 18)) 0 c a n (0 + 1 + 3 * k) < 8 ∧ zPutUp (zKnow (s 122) (s 109 18)) 0 c a n (0 + 1 + 3 * k + 1) < 8 ∧ zPutUp (zKnow (s 122) (s 109 18)) 0 c a n (0 + 1 + 3 * k + 2) < 8
    by_cases e : k < s 122 0
    · rw [gU_lo (by omega) (by omega) (by omega) (by omega) (by omega) (by omega), gU_lo (by omega) (by omega) (by omega) (by omega) (by omega) (by omega), gU_lo (by omega) (by omega) (by omega) (by omega) (by omega) (by omega)]
      exact b2.2 k e
    · have e2 : k = s 122 0 := by omega
      rw [e2, (gU_n (by omega)).1, (gU_n (by omega)).2.1, (gU_n (by omega)).2.2]
      exact ⟨hc, ha, hn⟩
  · have hi2 : i < s 116 0 := hi
    show zPutUp (zKnow (s 122) (s 109 18)) 0 c a n (0 + 28 + i) < 8
    rw [gU_lo (by omega) (by omega) (by omega) (by omega) (by omega) (by omega)]
    exact b3 i hi2
/-! take -/
theorem gD_0 {f : Nat → Nat} {d k : Nat} : zTakeDown (zKnow f d) 0 k 0 = f 0 - 1 := by unfold zTakeDown; rw [if_pos rfl, zKnow_lo (by omega)]
theorem gD_j {f : Nat → Nat} {d k j : Nat} (h0 : f 0 ≤ 8) (h1 : 1 ≤ j) (h2 : j < 29) : zTakeDown (zKnow f d) 0 k j = if 1 + 3 * k ≤ j ∧ j < 1 + 3 * f 0 - 3 then f (j + 3) else f j := by
  unfold zTakeDown
  rw [if_neg (by omega), zKnow_lo (show 0 < 32 by omega)]
  by_cases e : 1 + 3 * k ≤ j ∧ j < 1 + 3 * f 0 - 3
  · rw [if_pos (by omega), if_pos e, zKnow_lo (by omega)]
  · rw [if_neg (by omega), if_neg e, zKnow_lo (by omega)]
theorem gD_t {f : Nat → Nat} {d k i : Nat} (h0 : f 0 ≤ 8) (hi : i < 4) : zTakeDown (zKnow f d) 0 k (28 + i) = f (28 + i) := by
  unfold zTakeDown
  rw [if_neg (by omega), zKnow_lo (show 0 < 32 by omega), if_neg (by omega), zKnow_lo (by omega)]
theorem gD_w {s : Nat → Nat → Nat} {k : Nat} (h0 : s 122 0 ≤ 8) : zNw s (zTakeDown (zKnow (s 122) (s 109 18)) 0 k) := fun j hj => by
  unfold zTakeDown
  rw [if_neg (by omega), zKnow_lo (show 0 < 32 by omega), if_neg (by omega)]
theorem gD_s {f : Nat → Nat} {d k q : Nat} (h0 : f 0 ≤ 8) (hq : q < f 0 - 1) : zTakeDown (zKnow f d) 0 k (0 + 1 + 3 * q) = delN (fun x => f (0 + 1 + 3 * x)) k q ∧ zTakeDown (zKnow f d) 0 k (0 + 1 + 3 * q + 1) = delN (fun x => f (0 + 1 + 3 * x + 1)) k q ∧ zTakeDown (zKnow f d) 0 k (0 + 1 + 3 * q + 2) = delN (fun x => f (0 + 1 + 3 * x + 2)) k q := by
  rw [gD_j h0 (by omega) (by omega), gD_j h0 (by omega) (by omega), gD_j h0 (by omega) (by omega)]
  unfold delN
  by_cases e : q < k
  · rw [if_neg (by omega), if_pos e, if_neg (by omega), if_pos e, if_neg (by omega), if_pos e]
    exact ⟨rfl, rfl, rfl⟩
  · rw [if_pos (by omega), if_neg e, if_pos (by omega), if_neg e, if_pos (by omega), if_neg e]
    exact ⟨congrArg f (by omega), congrArg f (by omega), congrArg f (by omega)⟩
theorem insdel {f g : Nat → Nat} {k j : Nat} (hg : ∀ q, q < j + 1 → g q = delN f k q) (hg2 : ∀ q, q + 1 = j → g q = delN f k q) : f j = insN g k (f k) j := by
  unfold insN
  by_cases e : j < k
  · rw [if_pos e, hg j (by omega)]; unfold delN; rw [if_pos e]
  · rw [if_neg e]
    by_cases e2 : j = k
    · rw [if_pos e2, e2]
    · rw [if_neg e2, hg2 (j - 1) (by omega)]; unfold delN; rw [if_neg (by omega)]; exact congrArg f (by omega)
theorem insdel2 {f g : Nat → Nat} {k j m : Nat} (hj : j < m) (hk : k < m) (hg : ∀ q, q < m - 1 → g q = delN f k q) : f j = insN g k (f k) j := by
  unfold insN
  by_cases e : j < k
  · rw [if_pos e, hg j (by omega)]; unfold delN; rw [if_pos e]
  · rw [if_neg e]
    by_cases e2 : j = k
    · rw [if_pos e2, e2]
    · rw [if_neg e2, hg (j - 1) (by omega)]; unfold delN; rw [if_neg (by omega)]; exact congrArg f (by omega)
theorem CR.take {t : Nat} {s : Nat → Nat → Nat} {I K J : AI} {o k : Nat} (ht : t = 5 ∨ t = 36) (h : CR t s I) (hR : RInv s) (ho : o < 8) (hE : ∀ e, e < s 109 18 → Rev (s 116 0) (Bk (s 122) (32 + 32 * e)) (Bk (s 122) (zNb (s 109 18) e)) (I 75 ((o + e) % 8)) (I 76 ((o + e) % 8)) (I 77 ((o + e) % 8)) (I 78 ((o + e) % 8)) (I 79 ((o + e) % 8))) (hN : zNote o (s 109 18) (nI 1) (nI k) (nI (sgC s 0 k)) (nI (sgT s 0 k)) (nI (sgN s 0 k)) I K) (hk : k < s 122 0) (hF : zGf (t + 22) K J) (hS : CSg (s 122 0 - 1) (delN (sgC s 0) k) (delN (sgT s 0) k) (delN (sgN s 0) k) J (t + 22)) : CR t (sSet s (zTakeDown (zKnow (s 122) (s 109 18)) 0 k) (zKd (s 109 18))) J := by
  have hw : s 116 0 ≤ 4 := hR.1.2.1.1
  have hm := hR.1.2.2.1.1
  have hb := hR.1.2.2.1.2.1.2 k hk
  refine CR.push ht h hR (gD_w hm) ho hE hN (Or.inr (Or.inl ⟨rfl, k, sgC s 0 k, sgT s 0 k, sgN s 0 k, ⟨hk, rfl, rfl, rfl, rfl⟩, hb, ?_, fun j hj => ?_, fun i hi => ?_⟩)) (fun x hx => hF x (by omega) (by omega) (by omega) (by omega)) ?_ ?_
  · show s 122 (0 + 0) = zTakeDown (zKnow (s 122) (s 109 18)) 0 k (0 + 0) + 1
    rw [Nat.zero_add, gD_0]; omega
  · have hj2 : j < s 122 0 := hj
    have e : ∀ x, Bk (s 122) 0 x = s 122 x := fun x => congrArg (s 122) (Nat.zero_add x)
    have e2 : ∀ x, Bk (zTakeDown (zKnow (s 122) (s 109 18)) 0 k) 0 x = zTakeDown (zKnow (s 122) (s 109 18)) 0 k x := fun x => congrArg _ (Nat.zero_add x)
    simp only [e, e2]
    have hd := fun q hq => gD_s (d := s 109 18) (k := k) (q := q) hm hq
    simp only [Nat.zero_add] at hd
    refine ⟨?_, ?_, ?_⟩
    · have := insdel2 (f := fun x => s 122 (1 + 3 * x)) (g := fun q => zTakeDown (zKnow (s 122) (s 109 18)) 0 k (1 + 3 * q)) hj2 hk (fun q hq => (hd q hq).1)
      rw [this]
    · have := insdel2 (f := fun x => s 122 (1 + 3 * x + 1)) (g := fun q => zTakeDown (zKnow (s 122) (s 109 18)) 0 k (1 + 3 * q + 1)) hj2 hk (fun q hq => (hd q hq).2.1)
      rw [this]
    · have := insdel2 (f := fun x => s 122 (1 + 3 * x + 2)) (g := fun q => zTakeDown (zKnow (s 122) (s 109 18)) 0 k (1 + 3 * q + 2)) hj2 hk (fun q hq => (hd q hq).2.2)
      rw [this]
  · show s 122 (0 + (28 + i)) = zTakeDown (zKnow (s 122) (s 109 18)) 0 k (0 + (28 + i))
    rw [Nat.zero_add, gD_t hm (by omega)]
  · rw [gD_0]
    exact CSg.c hS (fun q hq => gD_s hm hq)
  · have hW := h.wk.eq (J := J) ((hF _ (by omega) (by omega) (by omega) (by omega)).trans (hN.1 _ (by omega))) ((hF _ (by omega) (by omega) (by omega) (by omega)).trans (hN.1 _ (by omega))) ((hF _ (by omega) (by omega) (by omega) (by omega)).trans (hN.1 _ (by omega))) ((hF _ (by omega) (by omega) (by omega) (by omega)).trans (hN.1 _ (by omega))) ((hF _ (by omega) (by omega) (by omega) (by omega)).trans (hN.1 _ (by omega)))
    exact CWk.c hW (fun i hi => ⟨rfl, rfl, rfl, gD_t hm (by omega)⟩)
theorem RInv.take {s : Nat → Nat → Nat} {k : Nat} (hR : RInv s) (hk : k < s 122 0) : RInv (sSet s (zTakeDown (zKnow (s 122) (s 109 18)) 0 k) (zKd (s 109 18))) := by
  have hw : s 116 0 ≤ 4 := hR.1.2.1.1
  obtain ⟨b1, b2, b3⟩ := hR.1.2.2.1
  refine hR.push (gD_w b1) ⟨?_, ⟨?_, fun q hq => ?_⟩, fun i hi => ?_⟩
  · show zTakeDown (zKnow (s 122) (s 109 18)) 0 k 0 ≤ 8
    rw [gD_0]; omega
  · show zTakeDown (zKnow (s 122) (s 109 18)) 0 k 0 ≤ 9
    rw [gD_0]; omega
  · have hq2 : q < zTakeDown (zKnow (s 122) (s 109 18)) 0 k 0 := hq
    rw [gD_0] at hq2
    show zTakeDown (zKnow (s 122) (s 109 18)) 0 k (0 + 1 + 3 * q) < 8 ∧ zTakeDown (zKnow (s 122) (s 109 18)) 0 k (0 + 1 + 3 * q + 1) < 8 ∧ zTakeDown (zKnow (s 122) (s 109 18)) 0 k (0 + 1 + 3 * q + 2) < 8
    have h9 := gD_s (d := s 109 18) (k := k) b1 hq2
    rw [h9.1, h9.2.1, h9.2.2]
    unfold delN
    by_cases e : q < k
    · rw [if_pos e, if_pos e, if_pos e]; exact b2.2 q (by omega)
    · rw [if_neg e, if_neg e, if_neg e]; exact b2.2 (q + 1) (by omega)
  · have hi2 : i < s 116 0 := hi
    show zTakeDown (zKnow (s 122) (s 109 18)) 0 k (0 + 28 + i) < 8
    rw [show 0 + 28 + i = 28 + i by omega, gD_t b1 (by omega)]
    have := b3 i hi2
    rw [show 0 + 28 + i = 28 + i by omega] at this
    exact this
/-! tell -/
theorem gT_w {s : Nat → Nat → Nat} {i c : Nat} (hi : i < 4) : zNw s (va_up (zKnow (s 122) (s 109 18)) (28 + i) c) := fun k hk => va_up_n _ _ (by omega)
theorem gT_lo {f : Nat → Nat} {d i c k : Nat} (hk : k < 28) : va_up (zKnow f d) (28 + i) c k = f k := by rw [va_up_n _ _ (by omega), zKnow_lo (by omega)]
theorem gT_t {f : Nat → Nat} {d i c j : Nat} (hj : j < 4) : va_up (zKnow f d) (28 + i) c (28 + j) = if j = i then c else f (28 + j) := by
  by_cases e : j = i
  · rw [e, va_up_s, if_pos rfl]
  · rw [va_up_n _ _ (by omega), if_neg e, zKnow_lo (by omega)]
theorem CR.tell {t : Nat} {s : Nat → Nat → Nat} {I K : AI} {o i c : Nat} {x3 x5 : Int32} (ht : t = 5 ∨ t = 36) (h : CR t s I) (hR : RInv s) (ho : o < 8) (hE : ∀ e, e < s 109 18 → Rev (s 116 0) (Bk (s 122) (32 + 32 * e)) (Bk (s 122) (zNb (s 109 18) e)) (I 75 ((o + e) % 8)) (I 76 ((o + e) % 8)) (I 77 ((o + e) % 8)) (I 78 ((o + e) % 8)) (I 79 ((o + e) % 8))) (hN : zNote o (s 109 18) (nI 2) (nI i) x3 (nI (s 122 (28 + i))) x5 I K) (hi : i < s 116 0) (hc : c < 8) : CR t (sSet s (va_up (zKnow (s 122) (s 109 18)) (28 + i) c) (zKd (s 109 18))) (zu K (t + 30) i (nI c)) := by
  have hw : s 116 0 ≤ 4 := hR.1.2.1.1
  have hm := hR.1.2.2.1.1
  have hb := h.wk.2.2 i hi
  refine CR.push ht h hR (gT_w (by omega)) ho hE hN (Or.inr (Or.inr ⟨rfl, i, s 122 (28 + i), ⟨hi, rfl, rfl, hb.2.2.2.2⟩, ?_, fun j h1 h2 => ?_, fun j hj => ?_⟩)) (fun x hx => zu_o _ _ (by omega)) ?_ ?_
  · show s 122 (0 + 0) = va_up (zKnow (s 122) (s 109 18)) (28 + i) c (0 + 0)
    rw [Nat.zero_add, gT_lo (by omega)]
  · have h2' : j < 1 + 3 * s 122 0 := h2
    show s 122 (0 + j) = va_up (zKnow (s 122) (s 109 18)) (28 + i) c (0 + j)
    rw [Nat.zero_add, gT_lo (by omega)]
  · show s 122 (0 + (28 + j)) = if j = i then s 122 (28 + i) else va_up (zKnow (s 122) (s 109 18)) (28 + i) c (0 + (28 + j))
    rw [Nat.zero_add, gT_t (by omega)]
    by_cases e : j = i
    · rw [if_pos e, e]
    · rw [if_neg e, if_neg e]
  · rw [gT_lo (by omega)]
    have hS := h.sg.eq (J := zu K (t + 30) i (nI c)) ((zu_o _ _ (by omega)).trans (hN.1 _ (by omega))) ((zu_o _ _ (by omega)).trans (hN.1 _ (by omega))) ((zu_o _ _ (by omega)).trans (hN.1 _ (by omega))) ((zu_o _ _ (by omega)).trans (hN.1 _ (by omega)))
    exact CSg.c hS (fun k hk => ⟨gT_lo (by omega), gT_lo (by omega), gT_lo (by omega)⟩)
  · obtain ⟨w1, w2, w3⟩ := h.wk
    refine ⟨by rw [zu_o _ _ (by omega), hN.1 _ (by omega)]; exact w1, w2, fun j hj => ?_⟩
    have w := w3 j hj
    rw [zu_o _ _ (show t + 26 + 1 ≠ t + 30 by omega), zu_o _ _ (show t + 26 + 2 ≠ t + 30 by omega), zu_o _ _ (show t + 26 + 3 ≠ t + 30 by omega), hN.1 _ (by omega), hN.1 _ (by omega), hN.1 _ (by omega)]
    refine ⟨⟨w.1.1, w.1.2.1, w.1.2.2.1, ?_⟩, w.2.1, w.2.2.1, w.2.2.2.1, ?_⟩
    · show zu K (t + 30) i (nI c) (t + 30) j = nI (va_up (zKnow (s 122) (s 109 18)) (28 + i) c (28 + j))
      rw [gT_t (by omega)]
      by_cases e : j = i
      · rw [e, zu_s, if_pos rfl]
      · rw [zu_n _ _ e, if_neg e, hN.1 _ (by omega)]; exact w.1.2.2.2
    · show va_up (zKnow (s 122) (s 109 18)) (28 + i) c (28 + j) < 8
      rw [gT_t (by omega)]
      by_cases e : j = i
      · rw [if_pos e]; exact hc
      · rw [if_neg e]; exact w.2.2.2.2
theorem RInv.tell {s : Nat → Nat → Nat} {i c : Nat} (hR : RInv s) (hi : i < s 116 0) (hc : c < 8) : RInv (sSet s (va_up (zKnow (s 122) (s 109 18)) (28 + i) c) (zKd (s 109 18))) := by
  have hw : s 116 0 ≤ 4 := hR.1.2.1.1
  obtain ⟨b1, b2, b3⟩ := hR.1.2.2.1
  refine hR.push (gT_w (by omega)) ⟨?_, ⟨?_, fun q hq => ?_⟩, fun j hj => ?_⟩
  · show va_up (zKnow (s 122) (s 109 18)) (28 + i) c 0 ≤ 8
    rw [gT_lo (by omega)]; exact b1
  · show va_up (zKnow (s 122) (s 109 18)) (28 + i) c 0 ≤ 9
    rw [gT_lo (by omega)]; omega
  · have hq2 : q < va_up (zKnow (s 122) (s 109 18)) (28 + i) c 0 := hq
    rw [gT_lo (by omega)] at hq2
    show va_up (zKnow (s 122) (s 109 18)) (28 + i) c (0 + 1 + 3 * q) < 8 ∧ va_up (zKnow (s 122) (s 109 18)) (28 + i) c (0 + 1 + 3 * q + 1) < 8 ∧ va_up (zKnow (s 122) (s 109 18)) (28 + i) c (0 + 1 + 3 * q + 2) < 8
    rw [gT_lo (by omega), gT_lo (by omega), gT_lo (by omega)]
    exact b2.2 q hq2
  · have hj2 : j < s 116 0 := hj
    show va_up (zKnow (s 122) (s 109 18)) (28 + i) c (0 + 28 + j) < 8
    rw [show 0 + 28 + j = 28 + j by omega, gT_t (by omega)]
    by_cases e : j = i
    · rw [if_pos e]; exact hc
    · rw [if_neg e]
      have := b3 j hj2
      rw [show 0 + 28 + j = 28 + j by omega] at this
      exact this
