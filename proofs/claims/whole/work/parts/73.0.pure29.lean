/-! PURE: what the draft and the trial block leave alone -/
def sAg (s s2 : Nat → Nat → Nat) : Prop := ∀ a k, zDr a k = false → (a = 122 → k < 352) → s2 a k = s a k
theorem Scr.ag {s s2 : Nat → Nat → Nat} (h : Scr zDr s s2) : sAg s s2 := fun a k h1 _ => h a k h1
theorem sLo.ag {s s2 : Nat → Nat → Nat} (h : sLo s s2) : sAg s s2 := fun a k _ h2 => by
  by_cases e : a = 122
  · subst e; exact h.2 k (h2 rfl)
  · rw [h.1 a e]
theorem zDr_113 {k : Nat} (h : k < 12) : zDr 113 k = false ∧ zDr 114 k = false ∧ zDr 115 k = false := by
  have h1 : decide (12 ≤ k) = false := decide_eq_false (by omega)
  refine ⟨?_, ?_, ?_⟩ <;> (unfold zDr; rw [h1]; rfl)
theorem zDr_117 {k : Nat} (h : k < 4) : zDr 117 k = false ∧ zDr 118 k = false ∧ zDr 119 k = false := by
  have h1 : decide (4 ≤ k) = false := decide_eq_false (by omega)
  refine ⟨?_, ?_, ?_⟩ <;> (unfold zDr; rw [h1]; rfl)
theorem zDr_120 {k : Nat} (h : k < 3) : zDr 120 k = false := by
  have h1 : decide (3 ≤ k) = false := decide_eq_false (by omega)
  unfold zDr; rw [h1]; rfl
theorem sAg.p {s s2 : Nat → Nat → Nat} (h : sAg s s2) {a k : Nat} (h1 : zDr a k = false) (h2 : a ≠ 122) : s2 a k = s a k := h a k h1 (fun z => absurd z h2)
theorem sAg.r {s s2 : Nat → Nat → Nat} (h : sAg s s2) {a : Nat} (h1 : ∀ k, zDr a k = false) (h2 : a ≠ 122) : s2 a = s a := funext fun k => h.p (h1 k) h2
theorem sAg.m {s s2 : Nat → Nat → Nat} (h : sAg s s2) : ∀ j, j < 352 → s2 122 j = s 122 j := fun j hj => h 122 j rfl (fun _ => hj)
theorem CSg.ag {s s2 : Nat → Nat → Nat} {I : AI} {b g : Nat} (h : CSg (s 122 b) (sgC s b) (sgT s b) (sgN s b) I g) (e : ∀ j, j < 352 → s2 122 j = s 122 j) (hb : b + 32 ≤ 352) (hm : s 122 b ≤ 8) : CSg (s2 122 b) (sgC s2 b) (sgT s2 b) (sgN s2 b) I g := by
  have e0 := e b (by omega)
  refine ⟨by rw [e0]; exact h.1, by rw [e0]; exact h.2.1, fun k hk => ?_⟩
  rw [e0] at hk
  have h1 := h.2.2 k hk
  show (I (g + 1) k = nI (s2 122 (b + 1 + 3 * k)) ∧ I (g + 2) k = nI (s2 122 (b + 1 + 3 * k + 1)) ∧ I (g + 3) k = nI (s2 122 (b + 1 + 3 * k + 2))) ∧ s2 122 (b + 1 + 3 * k) < 8 ∧ s2 122 (b + 1 + 3 * k + 1) < 8 ∧ s2 122 (b + 1 + 3 * k + 2) < 8
  rw [e (b + 1 + 3 * k) (by omega), e (b + 1 + 3 * k + 1) (by omega), e (b + 1 + 3 * k + 2) (by omega)]
  exact h1
theorem CR.ag {t : Nat} {s s2 : Nat → Nat → Nat} {I : AI} (h : CR t s I) (hR : RInv s) (e : sAg s s2) : CR t s2 I := by
  have e1 : s2 109 1 = s 109 1 := e.p rfl (by decide)
  have e18 : s2 109 18 = s 109 18 := e.p rfl (by decide)
  have e19 : s2 109 19 = s 109 19 := e.p rfl (by decide)
  have e33 : s2 109 33 = s 109 33 := e.p rfl (by decide)
  have e110 : s2 110 = s 110 := e.r (fun _ => rfl) (by decide)
  have e123 : s2 123 = s 123 := e.r (fun _ => rfl) (by decide)
  have e124 : s2 124 = s 124 := e.r (fun _ => rfl) (by decide)
  have e128 : s2 128 = s 128 := e.r (fun _ => rfl) (by decide)
  have e129 : s2 129 = s 129 := e.r (fun _ => rfl) (by decide)
  have e130 : s2 130 = s 130 := e.r (fun _ => rfl) (by decide)
  have e111 : s2 111 0 = s 111 0 := e.p rfl (by decide)
  have e112 : s2 112 0 = s 112 0 := e.p rfl (by decide)
  have e116 : s2 116 0 = s 116 0 := e.p rfl (by decide)
  have e120 : s2 120 0 = s 120 0 ∧ s2 120 1 = s 120 1 ∧ s2 120 2 = s 120 2 := ⟨e.p rfl (by decide), e.p rfl (by decide), e.p rfl (by decide)⟩
  have hm := e.m
  have hw4 : s 116 0 ≤ 4 := h.wk.2.1
  refine ⟨?_, ?_, ?_, ?_, ?_, ?_, ?_, ?_, ?_⟩
  · rw [e110, e1]; exact h.tx
  · rw [e111, e123, e124]; exact h.st
  · rw [e111, e112]
    obtain ⟨h1, h2, h3, h4, h5⟩ := h.sr
    refine ⟨h1, h2, h3, h4, fun k hk => ?_⟩
    have hz := zDr_113 (k := k) (by omega)
    rw [e.p hz.1 (by decide), e.p hz.2.1 (by decide), e.p hz.2.2 (by decide)]
    exact h5 k hk
  · exact h.sg.ag hm (by omega) hR.1.2.2.1.1
  · rw [e116]
    refine ⟨h.wk.1, h.wk.2.1, fun i hi => ?_⟩
    have hz := zDr_117 (k := i) (by omega)
    have h1 := h.wk.2.2 i hi
    show (I (t + 26 + 1) i = nI (s2 117 i) ∧ I (t + 26 + 2) i = nI (s2 118 i) ∧ I (t + 26 + 3) i = nI (s2 119 i) ∧ I (t + 26 + 4) i = nI (s2 122 (28 + i))) ∧ s2 117 i < 4 ∧ s2 118 i < 8 ∧ s2 119 i < 8 ∧ s2 122 (28 + i) < 8
    rw [e.p hz.1 (by decide), e.p hz.2.1 (by decide), e.p hz.2.2 (by decide), hm (28 + i) (by omega)]
    exact h1
  · rw [e120.1, e120.2.1, e120.2.2]; exact h.rt
  · obtain ⟨o, h1, h2, h3, h4, h5⟩ := h.lg
    refine ⟨o, h1, h2, by rw [e18]; exact h3, by rw [e18]; exact h4, fun x hx => ?_⟩
    rw [e18] at hx ⊢
    rw [e116]
    refine (h5 x hx).c hw4 (hR.2.2.2.2.1 x hx).1 (fun j hj => hm _ (by omega)) (fun j hj => hm _ ?_)
    have hb : zNb (s 109 18) x ≤ 256 + 32 := by unfold zNb; split <;> omega
    omega
  · refine ⟨by rw [e19]; exact h.sf.1, by rw [e19]; exact h.sf.2.1, fun x hx => ?_⟩
    rw [e19] at hx
    have hx2 := h.sf.2.1
    refine ⟨(h.sf.2.2 x hx).1.ag hm (by omega) (hR.2.2.2.2.2 x hx).1, fun i hi => ?_⟩
    rw [e116] at hi
    rw [hm _ (by omega)]
    exact (h.sf.2.2 x hx).2 i hi
  · unfold CSe
    rw [e33, e128, e129, e130]
    exact h.se
theorem BlkOk.ag {s s2 : Nat → Nat → Nat} {b : Nat} (h : BlkOk s b) (e : ∀ j, j < 352 → s2 122 j = s 122 j) (e116 : s2 116 0 = s 116 0) (hw : s 116 0 ≤ 4) (hb : b + 32 ≤ 352) : BlkOk s2 b := by
  have e0 := e b (by omega)
  have hm := h.1
  refine ⟨by rw [e0]; exact h.1, ⟨by rw [e0]; exact h.2.1.1, fun k hk => ?_⟩, fun i hi => ?_⟩
  · rw [e0] at hk
    have h1 := h.2.1.2 k hk
    show s2 122 (b + 1 + 3 * k) < 8 ∧ s2 122 (b + 1 + 3 * k + 1) < 8 ∧ s2 122 (b + 1 + 3 * k + 2) < 8
    rw [e (b + 1 + 3 * k) (by omega), e (b + 1 + 3 * k + 1) (by omega), e (b + 1 + 3 * k + 2) (by omega)]
    exact h1
  · rw [e116] at hi
    rw [e (b + 28 + i) (by omega)]
    exact h.2.2 i hi
theorem RInv.ag {s s2 : Nat → Nat → Nat} (hR : RInv s) (e : sAg s s2) : RInv s2 := by
  have e1 : s2 109 1 = s 109 1 := e.p rfl (by decide)
  have e18 : s2 109 18 = s 109 18 := e.p rfl (by decide)
  have e19 : s2 109 19 = s 109 19 := e.p rfl (by decide)
  have e33 : s2 109 33 = s 109 33 := e.p rfl (by decide)
  have e110 : s2 110 = s 110 := e.r (fun _ => rfl) (by decide)
  have e123 : s2 123 = s 123 := e.r (fun _ => rfl) (by decide)
  have e124 : s2 124 = s 124 := e.r (fun _ => rfl) (by decide)
  have e128 : s2 128 = s 128 := e.r (fun _ => rfl) (by decide)
  have e129 : s2 129 = s 129 := e.r (fun _ => rfl) (by decide)
  have e130 : s2 130 = s 130 := e.r (fun _ => rfl) (by decide)
  have e111 : s2 111 0 = s 111 0 := e.p rfl (by decide)
  have e112 : s2 112 0 = s 112 0 := e.p rfl (by decide)
  have e116 : s2 116 0 = s 116 0 := e.p rfl (by decide)
  have hm := e.m
  obtain ⟨⟨a1, a2, a3, a4, a5, a6⟩, ⟨b1, b2, b3, b4⟩, c1, c2, c3, c4⟩ := hR
  have hw4 : s 116 0 ≤ 4 := a2.1
  have hn : nrS s2 none = nrS s none := by
    show zNr (s2 113) (s2 114) (s2 115) none (s2 112 0) = zNr (s 113) (s 114) (s 115) none (s 112 0)
    rw [e112]
    refine zNr_c (fun k hk => ?_)
    have h12 := a4.1
    have hz := zDr_113 (k := k) (by omega)
    exact ⟨e.p hz.1 (by decide), e.p hz.2.1 (by decide), e.p hz.2.2 (by decide)⟩
  refine ⟨⟨⟨⟨?_, ?_⟩, ?_, ?_, ?_⟩, ⟨?_, ?_⟩, ?_, ⟨?_, ?_⟩, ?_, ?_⟩, ⟨by rw [e18]; exact b1, by rw [e19]; exact b2, by rw [e33]; exact b3, by rw [e1]; exact b4⟩, by rw [e1, e110]; exact c1, by rw [e33, e128, e129, e130]; exact c2, ?_, ?_⟩
  · rw [e123]; exact a1.1.1
  · rw [e124]; exact a1.1.2
  · rw [e111]; exact a1.2.1
  · rw [e123]; exact a1.2.2.1
  · intro k hk
    rw [e.p (zDr_120 hk) (by decide)]
    exact a1.2.2.2 k hk
  · rw [e116]; exact a2.1
  · intro i hi
    rw [e116] at hi
    have hz := zDr_117 (k := i) (by omega)
    rw [e.p hz.1 (by decide), e.p hz.2.1 (by decide), e.p hz.2.2 (by decide)]
    exact a2.2 i hi
  · exact a3.ag hm e116 hw4 (by omega)
  · rw [e112]; exact a4.1
  · intro k hk
    rw [e112] at hk
    have h12 := a4.1
    have hz := zDr_113 (k := k) (by omega)
    rw [e.p hz.1 (by decide), e.p hz.2.1 (by decide), e.p hz.2.2 (by decide)]
    exact a4.2 k hk
  · intro k hk
    rw [e123, e124, hn]
    exact a5 k hk
  · rw [e111]; exact a6
  · intro x hx
    rw [e18] at hx
    exact (c3 x hx).ag hm e116 hw4 (by omega)
  · intro x hx
    rw [e19] at hx
    exact (c4 x hx).ag hm e116 hw4 (by omega)
/-! the reference's numbers stay in order over each change -/
theorem RInv.toPut {s : Nat → Nat → Nat} (hR : RInv s) (x y z : Int32) : RInv (nPut s x y z) := by
  have h8 : s 111 0 ≤ 8 := hR.1.1.2.1
  have hm : s 122 0 ≤ 8 := hR.1.2.2.1.1
  unfold nPut
  split
  · next h =>
    obtain ⟨⟨hx, hy, hz⟩, hn⟩ := h
    obtain ⟨a, ha, rfl⟩ := zix_t hx (by omega)
    obtain ⟨b, hb, rfl⟩ := zix_t hy (by omega)
    obtain ⟨c, hc, rfl⟩ := zix_t hz (by omega)
    rw [nI_clamp (by omega), nI_clamp (by omega), nI_clamp (by omega)]
    exact hR.put (by omega) (by omega) (by omega) (by omega)
  · exact hR
theorem RInv.toTake {s : Nat → Nat → Nat} (hR : RInv s) (x : Int32) : RInv (nTake s x) := by
  have hm : s 122 0 ≤ 8 := hR.1.2.2.1.1
  unfold nTake
  split
  · next h =>
    obtain ⟨a, ha, rfl⟩ := zix_t h (by omega)
    rw [nI_clamp (by omega)]
    exact hR.take ha
  · exact hR
theorem RInv.toTell {s : Nat → Nat → Nat} (hR : RInv s) (x y : Int32) : RInv (nTell s x y) := by
  have h8 : s 111 0 ≤ 8 := hR.1.1.2.1
  have h4 : s 116 0 ≤ 4 := hR.1.2.1.1
  unfold nTell
  split
  · next h =>
    obtain ⟨a, ha, rfl⟩ := zix_t h.1 (by omega)
    obtain ⟨b, hb, rfl⟩ := zix_t h.2 (by omega)
    rw [nI_clamp (by omega), nI_clamp (by omega)]
    exact hR.tell ha (by omega)
  · exact hR
theorem RInv.toUndo {s : Nat → Nat → Nat} (hR : RInv s) : RInv (nUndo s) := by
  unfold nUndo
  split
  · exact hR
  · exact hR.undo (by omega)
theorem RInv.toKeep {s : Nat → Nat → Nat} (hR : RInv s) : RInv (nKeep s) := by
  have h2 : s 109 19 ≤ 2 := hR.2.1.2.1
  unfold nKeep
  split
  · exact hR
  · exact hR.keep (by omega)
theorem RInv.toBack {s : Nat → Nat → Nat} (hR : RInv s) : RInv (nBack s) := by
  unfold nBack
  split
  · exact hR
  · exact hR.back (by omega)
theorem RInv.toWrite {s : Nat → Nat → Nat} (hR : RInv s) (x : Int32) : RInv (nWrite s x) := by
  have h2 : s 109 1 ≤ 200 := hR.2.1.2.2.2
  unfold nWrite
  split
  · next h =>
    have h126 : x.toInt ≤ 126 := by
      have := Int32.le_iff_toInt_le.mp h.1.2
      simpa using this
    refine hR.write ?_ (by omega)
    show x.toInt.toNat ≤ 126
    omega
  · exact hR
theorem RInv.toSeen {s : Nat → Nat → Nat} (hR : RInv s) (x y z : Int32) : RInv (nSeen s x y z) := by
  have h8 : s 111 0 ≤ 8 := hR.1.1.2.1
  have h4 : s 116 0 ≤ 4 := hR.1.2.1.1
  have h33 : s 109 33 ≤ 8 := hR.2.1.2.2.1
  unfold nSeen
  split
  · next h =>
    obtain ⟨a, ha, rfl⟩ := zix_t h.1.1 (by omega)
    obtain ⟨b, hb, rfl⟩ := zix_t h.1.2.1 (by omega)
    obtain ⟨c, hc, rfl⟩ := zix_t h.1.2.2 (by omega)
    rw [nI_clamp (by omega), nI_clamp (by omega), nI_clamp (by omega)]
    exact hR.seen (by omega) (by omega) (by omega) (by omega)
  · exact hR
theorem zHg.A {s : Nat → Nat → Nat} {I J : AI} (h : zHg I J) (hA : RefA s I) : RefA s J := ⟨fun a k ha => by
  have h1 : 109 ≤ a := by
    simp only [zrA, Bool.and_eq_true, decide_eq_true_eq] at ha
    omega
  rw [h a h1]
  exact hA.1 a k ha, fun k hk => by rw [h 109 (by omega)]; exact hA.2 k hk⟩
