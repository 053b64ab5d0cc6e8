/-! PURE: how the system stands for the reference's numbers -/
def Bk (f : Nat → Nat) (b : Nat) : Nat → Nat := fun j => f (b + j)
/-- a noted change takes Y back to X; w walkers -/
def Rev (w : Nat) (X Y : Nat → Nat) (so nu co ai ne : Int32) : Prop :=
  (so = nI 0 ∧ nu = nI (X 0) ∧ Y 0 = X 0 + 1 ∧ (∀ j, 1 ≤ j → j < 1 + 3 * X 0 → X j = Y j) ∧ ∀ i, i < w → X (28 + i) = Y (28 + i)) ∨
  (so = nI 1 ∧ ∃ k c a n, (k < X 0 ∧ nu = nI k ∧ co = nI c ∧ ai = nI a ∧ ne = nI n) ∧ (c < 8 ∧ a < 8 ∧ n < 8) ∧ X 0 = Y 0 + 1 ∧ (∀ j, j < X 0 → X (1 + 3 * j) = insN (fun q => Y (1 + 3 * q)) k c j ∧ X (1 + 3 * j + 1) = insN (fun q => Y (1 + 3 * q + 1)) k a j ∧ X (1 + 3 * j + 2) = insN (fun q => Y (1 + 3 * q + 2)) k n j) ∧ ∀ i, i < w → X (28 + i) = Y (28 + i)) ∨
  (so = nI 2 ∧ ∃ i a, (i < w ∧ nu = nI i ∧ ai = nI a ∧ a < 8) ∧ X 0 = Y 0 ∧ (∀ j, 1 ≤ j → j < 1 + 3 * X 0 → X j = Y j) ∧ ∀ j, j < w → X (28 + j) = if j = i then a else Y (28 + j))
theorem Rev.c {w : Nat} {X Y X2 Y2 : Nat → Nat} {so nu co ai ne : Int32} (h : Rev w X Y so nu co ai ne) (hw : w ≤ 4) (hm : X 0 ≤ 8) (hX : ∀ j, j < 32 → X2 j = X j) (hY : ∀ j, j < 32 → Y2 j = Y j) : Rev w X2 Y2 so nu co ai ne := by
  unfold Rev at h ⊢
  rw [hX 0 (by omega), hY 0 (by omega)]
  rcases h with ⟨h1, h2, h3, h4, h5⟩ | ⟨h1, k, c, a, n, h2, h3, h4, h5, h6⟩ | ⟨h1, i, a, h2, h3, h4, h5⟩
  · refine Or.inl ⟨h1, h2, h3, fun j hj hj2 => ?_, fun i hi => ?_⟩
    · rw [hX j (by omega), hY j (by omega)]; exact h4 j hj hj2
    · rw [hX _ (by omega), hY _ (by omega)]; exact h5 i hi
  · refine Or.inr (Or.inl ⟨h1, k, c, a, n, h2, h3, h4, fun j hj => ?_, fun i hi => ?_⟩)
    · have e1 : ∀ x : Nat → Nat, ∀ u, insN (fun q => Y2 (x q)) k u j = if j < k then Y2 (x j) else if j = k then u else Y2 (x (j - 1)) := fun _ _ => rfl
      have h5j := h5 j hj
      unfold insN at h5j ⊢
      rw [hX _ (by omega), hX _ (by omega), hX _ (by omega)]
      by_cases e : j < k
      · simp only [e, if_true] at h5j ⊢
        rw [hY _ (by omega), hY _ (by omega), hY _ (by omega)]
        exact h5j
      · by_cases e2 : j = k
        · simp only [e2, Nat.lt_irrefl, if_true, if_false] at h5j ⊢
          exact h5j
        · simp only [e, e2, if_false] at h5j ⊢
          rw [hY _ (by omega), hY _ (by omega), hY _ (by omega)]
          exact h5j
    · rw [hX _ (by omega), hY _ (by omega)]; exact h6 i hi
  · refine Or.inr (Or.inr ⟨h1, i, a, h2, h3, fun j hj hj2 => ?_, fun j hj => ?_⟩)
    · rw [hX j (by omega), hY j (by omega)]; exact h4 j hj hj2
    · rw [hX _ (by omega), hY _ (by omega)]; exact h5 j hj
/-- the block behind the e-th change -/
def zNb (d e : Nat) : Nat := if e + 1 < d then 32 + 32 * (e + 1) else 0
def LogR (s : Nat → Nat → Nat) (I : AI) : Prop := ∃ o, o < 8 ∧ I 74 5 = nI o ∧ I 74 6 = nI (s 109 18) ∧ s 109 18 ≤ 8 ∧ ∀ e, e < s 109 18 → Rev (s 116 0) (Bk (s 122) (32 + 32 * e)) (Bk (s 122) (zNb (s 109 18) e)) (I 75 ((o + e) % 8)) (I 76 ((o + e) % 8)) (I 77 ((o + e) % 8)) (I 78 ((o + e) % 8)) (I 79 ((o + e) % 8))
def ShR (s : Nat → Nat → Nat) (I : AI) : Prop := I 80 2 = nI (s 109 19) ∧ s 109 19 ≤ 2 ∧ ∀ e, e < s 109 19 → CSg (s 122 (288 + 32 * e)) (sgC s (288 + 32 * e)) (sgT s (288 + 32 * e)) (sgN s (288 + 32 * e)) I (85 + 4 * e) ∧ ∀ i, i < s 116 0 → I (83 + e) i = nI (s 122 (288 + 32 * e + 28 + i))
/-- the system stands, town t in force, as the reference's s says -/
def CR (t : Nat) (s : Nat → Nat → Nat) (I : AI) : Prop := CTx (s 110) (s 109 1) I ∧ CSt (s 111 0) (s 123) (s 124) I (t + 1) (t + 5) (t + 14) ∧ CSr (s 111 0) (s 112 0) (s 113) (s 114) (s 115) I t ∧ CSg (s 122 0) (sgC s 0) (sgT s 0) (sgN s 0) I (t + 22) ∧ CWk (s 116 0) (s 117) (s 118) (s 119) (fun i => s 122 (28 + i)) I (t + 26) ∧ (I t 3 = nI (s 120 0) ∧ I t 4 = nI (s 120 1) ∧ I t 5 = nI (s 120 2)) ∧ LogR s I ∧ ShR s I ∧ CSe s I
theorem CR.tx {t : Nat} {s : Nat → Nat → Nat} {I : AI} (h : CR t s I) : CTx (s 110) (s 109 1) I := h.1
theorem CR.st {t : Nat} {s : Nat → Nat → Nat} {I : AI} (h : CR t s I) : CSt (s 111 0) (s 123) (s 124) I (t + 1) (t + 5) (t + 14) := h.2.1
theorem CR.sr {t : Nat} {s : Nat → Nat → Nat} {I : AI} (h : CR t s I) : CSr (s 111 0) (s 112 0) (s 113) (s 114) (s 115) I t := h.2.2.1
theorem CR.sg {t : Nat} {s : Nat → Nat → Nat} {I : AI} (h : CR t s I) : CSg (s 122 0) (sgC s 0) (sgT s 0) (sgN s 0) I (t + 22) := h.2.2.2.1
theorem CR.wk {t : Nat} {s : Nat → Nat → Nat} {I : AI} (h : CR t s I) : CWk (s 116 0) (s 117) (s 118) (s 119) (fun i => s 122 (28 + i)) I (t + 26) := h.2.2.2.2.1
theorem CR.rt {t : Nat} {s : Nat → Nat → Nat} {I : AI} (h : CR t s I) : I t 3 = nI (s 120 0) ∧ I t 4 = nI (s 120 1) ∧ I t 5 = nI (s 120 2) := h.2.2.2.2.2.1
theorem CR.lg {t : Nat} {s : Nat → Nat → Nat} {I : AI} (h : CR t s I) : LogR s I := h.2.2.2.2.2.2.1
theorem CR.sf {t : Nat} {s : Nat → Nat → Nat} {I : AI} (h : CR t s I) : ShR s I := h.2.2.2.2.2.2.2.1
theorem CR.se {t : Nat} {s : Nat → Nat → Nat} {I : AI} (h : CR t s I) : CSe s I := h.2.2.2.2.2.2.2.2
theorem LogR.eq {s : Nat → Nat → Nat} {I J : AI} (h : LogR s I) (e : ∀ a, 74 ≤ a → a ≤ 79 → J a = I a) : LogR s J := by
  obtain ⟨o, h1, h2, h3, h4, h5⟩ := h
  refine ⟨o, h1, by rw [e 74 (by omega) (by omega)]; exact h2, by rw [e 74 (by omega) (by omega)]; exact h3, h4, fun x hx => ?_⟩
  rw [e 75 (by omega) (by omega), e 76 (by omega) (by omega), e 77 (by omega) (by omega), e 78 (by omega) (by omega), e 79 (by omega) (by omega)]
  exact h5 x hx
theorem ShR.eq {s : Nat → Nat → Nat} {I J : AI} (h : ShR s I) (e : ∀ a, 80 ≤ a → a ≤ 92 → J a = I a) : ShR s J := by
  obtain ⟨h1, h2, h3⟩ := h
  refine ⟨by rw [e 80 (by omega) (by omega)]; exact h1, h2, fun x hx => ⟨(h3 x hx).1.eq (e _ (by omega) (by omega)) (e _ (by omega) (by omega)) (e _ (by omega) (by omega)) (e _ (by omega) (by omega)), fun i hi => ?_⟩⟩
  rw [e _ (by omega) (by omega)]
  exact (h3 x hx).2 i hi
theorem CSe.eq {s : Nat → Nat → Nat} {I J : AI} (h : CSe s I) (e : ∀ a, 93 ≤ a → a ≤ 96 → J a = I a) : CSe s J := by
  obtain ⟨h1, h2, h3⟩ := h
  refine ⟨by rw [e 93 (by omega) (by omega)]; exact h1, h2, fun k hk => ?_⟩
  rw [e 94 (by omega) (by omega), e 95 (by omega) (by omega), e 96 (by omega) (by omega)]
  exact h3 k hk
theorem CSr.eq {nc m : Nat} {sa sb sl : Nat → Nat} {I J : AI} {t : Nat} (h : CSr nc m sa sb sl I t) (e : ∀ a, t < a → a < t + 13 → J a = I a) : CSr nc m sa sb sl J t := by
  obtain ⟨h1, h2, h3, h4, h5⟩ := h
  refine ⟨by rw [e _ (by omega) (by omega)]; exact h1, h2, by rw [e _ (by omega) (by omega)]; exact h3, h4, fun k hk => ?_⟩
  have hk5 := h5 k hk
  rw [e (t + 2) (by omega) (by omega), e (t + 3) (by omega) (by omega), e (t + 5 + sa k) (by omega) (by omega)]
  exact hk5
/-- but for places of passing use all cells stay -/
def zSc (t : Nat) (I J : AI) : Prop := ∀ a, ¬ (a = 3 ∨ a = 4 ∨ (41 - t ≤ a ∧ a < 41 - t + 31) ∨ (67 ≤ a ∧ a ≤ 73) ∨ (97 ≤ a ∧ a ≤ 108)) → J a = I a
theorem zSc.rf {t : Nat} {I : AI} : zSc t I I := fun _ _ => rfl
theorem zSc.trans {t : Nat} {I J K : AI} (h : zSc t I J) (h2 : zSc t J K) : zSc t I K := fun a ha => (h2 a ha).trans (h a ha)
theorem zTf.sc {t : Nat} {I J : AI} (h : zTf I J) : zSc t I J := fun a ha => h a (by omega) (by omega) (by omega)
theorem zPf.sc {t : Nat} {I J : AI} (h : zPf I J) : zSc t I J := fun a ha => h a (by omega)
theorem zGf.sc {t : Nat} {I J : AI} (h : zGf 70 I J) : zSc t I J := fun a ha => h a (by omega) (by omega) (by omega) (by omega)
theorem zSc.tw {t : Nat} {I J : AI} (h : zSc t I J) (ht : t = 5 ∨ t = 36) {a : Nat} (h1 : t ≤ a) (h2 : a < t + 31) : J a = I a := h a (by omega)
theorem CR.sc {t : Nat} {s : Nat → Nat → Nat} {I J : AI} (h : CR t s I) (hS : zSc t I J) (ht : t = 5 ∨ t = 36) : CR t s J := by
  have e : ∀ a, t ≤ a → a < t + 31 → J a = I a := fun a h1 h2 => hS.tw ht h1 h2
  refine ⟨h.tx.eq (hS 1 (by omega)) (hS 2 (by omega)), h.st.eq (e _ (by omega) (by omega)) (fun a ha => e _ (by omega) (by omega)) (fun a ha => e _ (by omega) (by omega)), h.sr.eq (fun a h1 h2 => e a (by omega) (by omega)), h.sg.eq (e _ (by omega) (by omega)) (e _ (by omega) (by omega)) (e _ (by omega) (by omega)) (e _ (by omega) (by omega)), h.wk.eq (e _ (by omega) (by omega)) (e _ (by omega) (by omega)) (e _ (by omega) (by omega)) (e _ (by omega) (by omega)) (e _ (by omega) (by omega)), by rw [e t (by omega) (by omega)]; exact h.rt, h.lg.eq (fun a h1 h2 => hS a (by omega)), h.sf.eq (fun a h1 h2 => hS a (by omega)), h.se.eq (fun a h1 h2 => hS a (by omega))⟩
/-- the reference's cells alone changed -/
theorem CR.frm {t : Nat} {s : Nat → Nat → Nat} {I J : AI} (h : CR t s I) (hS : zFrm I J) (ht : t = 5 ∨ t = 36) : CR t s J := by
  have e : ∀ a, a < 109 → J a = I a := hS
  refine ⟨h.tx.eq (e 1 (by omega)) (e 2 (by omega)), h.st.eq (e _ (by omega)) (fun a ha => e _ (by omega)) (fun a ha => e _ (by omega)), h.sr.eq (fun a h1 h2 => e a (by omega)), h.sg.eq (e _ (by omega)) (e _ (by omega)) (e _ (by omega)) (e _ (by omega)), h.wk.eq (e _ (by omega)) (e _ (by omega)) (e _ (by omega)) (e _ (by omega)) (e _ (by omega)), by rw [e t (by omega)]; exact h.rt, h.lg.eq (fun a h1 h2 => e a (by omega)), h.sf.eq (fun a h1 h2 => e a (by omega)), h.se.eq (fun a h1 h2 => e a (by omega))⟩
/-- the reference's numbers are in order -/
def BlkOk (s : Nat → Nat → Nat) (b : Nat) : Prop := s 122 b ≤ 8 ∧ RefK s b
def RInv (s : Nat → Nat → Nat) : Prop := (RefT s ∧ RefP s ∧ BlkOk s 0 ∧ RefG s ∧ RefM s ∧ 1 ≤ s 111 0) ∧ (s 109 18 ≤ 8 ∧ s 109 19 ≤ 2 ∧ s 109 33 ≤ 8 ∧ s 109 1 ≤ 200) ∧ (∀ k, k < s 109 1 → s 110 k ≤ 126) ∧ (∀ k, k < s 109 33 → s 128 k < 8 ∧ s 129 k < 8 ∧ s 130 k ≤ 30) ∧ (∀ e, e < s 109 18 → BlkOk s (32 + 32 * e)) ∧ ∀ e, e < s 109 19 → BlkOk s (288 + 32 * e)
theorem zMk.tr {T : ZT} {a : Nat} {I J : AI} (h : zMk T a I J) (h1 : T.1 ≤ 30) (h2 : ∀ k, T.2.2.2.2.2.2.1 k < 8) (h3 : T.2.2.2.2.2.2.1 T.1 = T.2.2.2.2.1) : zTr T J := ⟨h.2.1, h1, h.2.2.2.2.2.2.1, h.2.2.2.2.2.2.2, h3, h2⟩
theorem zTrS_end {s : Nat → Nat → Nat} {b kd fm aim to : Nat} : (zTrS s b kd fm aim to).2.2.2.2.2.2.1 (zTrS s b kd fm aim to).1 = (zTrS s b kd fm aim to).2.2.2.2.1 := zGo_end 30 0 0 0 0 fm none (fun _ => fm) (fun _ => false) rfl
theorem zMk.trS {s : Nat → Nat → Nat} {b kd fm aim to : Nat} {I J : AI} (hT : RefT s) (hS : RefS s b) (hfm : fm < 8) (h : zMk (zTrS s b kd fm aim to) aim I J) : zTr (zTrS s b kd fm aim to) J := h.tr (zTrS_inv hT hS hfm).1 (zTrS_inv hT hS hfm).2.2.1 zTrS_end
