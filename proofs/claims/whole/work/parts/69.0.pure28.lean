/-! PURE: a draft laid, on the system's side -/
theorem zPar_scr : ∀ {n : Nat} {s s3 : Nat → Nat → Nat} {f : Bool} {p : Nat}, DrF s f → zPar n s f p = .inr s3 → Scr zDr s s3 ∧ ∃ f3, DrF s3 f3
  | 0, s, s3, f, p, hD, h => by cases h; exact ⟨Scr.rf, f, hD⟩
  | n + 1, s, s3, f, p, hD, h => by
    unfold zPar at h
    by_cases hp : p < s 109 1
    · rw [if_pos hp] at h
      cases hi : zItem s f p with
      | none => rw [hi] at h; cases h
      | some q =>
        rw [hi] at h
        have hok := zItem_ok hD hi
        have ih := zPar_scr hok.1 h
        exact ⟨hok.2.2.trans ih.1, ih.2⟩
    · rw [if_neg hp] at h
      cases h
      exact ⟨Scr.rf, f, hD⟩
theorem sIni_scr (s : Nat → Nat → Nat) : Scr zDr s (sIni s) := ((((((Scr.rf.u rfl).u rfl).u rfl).u rfl).u rfl).u rfl).u rfl
theorem zDup_k {s : Nat → Nat → Nat} {a b k : Nat} : ∀ {n : Nat}, zDup s a b n = true → k < n → ¬ ((s 113 (12 + k) = a ∧ s 114 (12 + k) = b) ∨ (s 113 (12 + k) = b ∧ s 114 (12 + k) = a))
  | 0, _, hk => by omega
  | n + 1, h, hk => by
    unfold zDup at h
    simp only [Bool.and_eq_true, Bool.not_eq_true', decide_eq_false_iff_not] at h
    by_cases e : k = n
    · subst e; exact h.2
    · exact zDup_k h.1 (by omega)
/-- the street's own minutes lie in the rows -/
theorem zNr_at {s : Nat → Nat → Nat} : ∀ {n k : Nat}, (∀ q, q < n → s 113 (12 + q) < 8 ∧ s 114 (12 + q) < 8 ∧ ¬ s 113 (12 + q) = s 114 (12 + q) ∧ zDup s (s 113 (12 + q)) (s 114 (12 + q)) q = true) → k < n → zNr (fun k => s 113 (12 + k)) (fun k => s 114 (12 + k)) (fun k => s 115 (12 + k)) none n (8 * s 113 (12 + k) + s 114 (12 + k)) = s 115 (12 + k)
  | 0, k, _, hk => by omega
  | n + 1, k, h, hk => by
    have hn := h n (by omega)
    unfold zNr
    rw [if_neg (by intro z; cases z)]
    by_cases e : k = n
    · subst e
      rw [va_up_n _ _ (by omega), va_up_s]
    · have hk2 := h k (by omega)
      have hd := zDup_k (k := k) hn.2.2.2 (by omega)
      rw [va_up_n _ _ (by omega), va_up_n _ _ (by omega)]
      exact zNr_at (fun q hq => h q (by omega)) (by omega)
theorem sTk_122 {s : Nat → Nat → Nat} {k : Nat} : sTk s 122 k = cps (va_up (cpt (s 122) (fun i => s 119 (4 + i)) 4) 0 (s 109 13)) (s 121) (3 * s 109 13) k := rfl
theorem sTk_g0 {s : Nat → Nat → Nat} : sTk s 122 0 = s 109 13 := by rw [sTk_122]; unfold cps; rw [if_neg (by omega), va_up_s]
theorem sTk_g {s : Nat → Nat → Nat} {j : Nat} (hj : j < 3 * s 109 13) : sTk s 122 (1 + j) = s 121 j := by rw [sTk_122]; unfold cps; rw [if_pos (by omega)]; exact congrArg (s 121) (by omega)
theorem sTk_t {s : Nat → Nat → Nat} {i : Nat} (hm : s 109 13 ≤ 8) (hi : i < 4) : sTk s 122 (28 + i) = s 119 (4 + i) := by
  rw [sTk_122]
  unfold cps
  rw [if_neg (by omega), va_up_n _ _ (by omega)]
  unfold cpt
  rw [if_pos (by omega)]
  exact congrArg (fun x => s 119 (4 + x)) (by omega)
theorem sTk_nr {s : Nat → Nat → Nat} (hm : s 112 1 ≤ 12) (w : Option Nat) : nrS (tk6 s) w = zNr (fun k => s 113 (12 + k)) (fun k => s 114 (12 + k)) (fun k => s 115 (12 + k)) w (s 112 1) := zNr_c (fun k hk => ⟨cpk_lo (by have h9 : k < s 112 1 := hk; omega), cpk_lo (by have h9 : k < s 112 1 := hk; omega), cpk_lo (by have h9 : k < s 112 1 := hk; omega)⟩)
theorem sTk_123 {s : Nat → Nat → Nat} {k : Nat} (hm : s 112 1 ≤ 12) (hk : k < 64) : sTk s 123 k = nrD s k := by
  show (if k < 64 then nrS (tk6 s) none k else s 123 k) = _
  rw [if_pos hk, sTk_nr hm]
theorem sTk_124 {s : Nat → Nat → Nat} {k : Nat} (hm : s 112 1 ≤ 12) (hk : k < 64) : sTk s 124 k = zFar (nrD s) k := by
  show (if k < 64 then zFar (nrS (tk6 s) none) k else s 124 k) = _
  rw [if_pos hk, sTk_nr hm]
theorem zFar_le {nr : Nat → Nat} (h : ∀ k, nr k ≤ 10000) (k : Nat) : zFar nr k ≤ 10000 := zD_le h 8
theorem nrD_ng {s : Nat → Nat → Nat} {f : Bool} (hO : DrF s f) : zNg (s 111 1) (nrD s) := zNr_ng (fun k hk => by have := hO.2.1 k hk; exact ⟨this.1, this.2.1, this.2.2.2.1, this.2.2.2.2.1⟩) hO.1.2.1
theorem nrD_sym {s : Nat → Nat → Nat} {f : Bool} (hO : DrF s f) : ∀ a b, a < 8 → b < 8 → nrD s (8 * a + b) = nrD s (8 * b + a) := zNr_sym (fun k hk => by have := hO.2.1 k hk; have := hO.1.2.1; exact ⟨by omega, by omega⟩)
theorem DrC.sr {s : Nat → Nat → Nat} {f : Bool} {I : AI} {d : Nat} (h : DrC s I d) (hO : DrF s f) : CSr (s 111 1) (s 112 1) (fun k => s 113 (12 + k)) (fun k => s 114 (12 + k)) (fun k => s 115 (12 + k)) I d := by
  have h8 := hO.1.2.1
  refine ⟨h.1.1, h8, h.1.2, hO.1.2.2.1, fun k hk => ?_⟩
  have hs := hO.2.1 k hk
  refine ⟨⟨(h.2.1 k hk).1, (h.2.1 k hk).2, ?_⟩, hs.2.2.1, hs.1, hs.2.1, hs.2.2.2.1, hs.2.2.2.2.1⟩
  show I (d + 5 + s 113 (12 + k)) (s 114 (12 + k)) = nI (s 115 (12 + k))
  rw [h.2.2.1 _ _ (by omega) (by omega)]
  have e : nrD s (8 * s 113 (12 + k) + s 114 (12 + k)) = s 115 (12 + k) := zNr_at (fun q hq => by have := hO.2.1 q hq; exact ⟨by omega, by omega, this.2.2.1, this.2.2.2.2.2⟩) hk
  rw [e, zln_lt (by omega)]
theorem CSr.c {nc m : Nat} {sa sb sl sa2 sb2 sl2 : Nat → Nat} {I : AI} {t : Nat} (h : CSr nc m sa sb sl I t) (e : ∀ k, k < m → sa2 k = sa k ∧ sb2 k = sb k ∧ sl2 k = sl k) : CSr nc m sa2 sb2 sl2 I t := by
  obtain ⟨h1, h2, h3, h4, h5⟩ := h
  refine ⟨h1, h2, h3, h4, fun k hk => ?_⟩
  rw [(e k hk).1, (e k hk).2.1, (e k hk).2.2]
  exact h5 k hk
theorem CR.lay {d : Nat} {s : Nat → Nat → Nat} {f : Bool} {J : AI} (hX : CTx (s 110) (s 109 1) J) (hD : DrC s J d) (hO : DrF s f) (hM : zRw (d + 14) (fun a b => zFar (nrD s) (8 * a + b)) J) (h74 : J 74 5 = nI 0 ∧ J 74 6 = nI 0) (h80 : J 80 2 = nI 0) (h93 : J 93 3 = nI 0) (hfb : ∀ k, s 124 k ≤ 10000) : CR d (sTk s) J := by
  have h8 := hO.1.2.1
  have h12 := hO.1.2.2.1
  have h13 := hO.1.2.2.2.1
  have h4 := hO.1.2.2.2.2
  have hng := nrD_ng hO
  have hpos : ∀ k, 1 ≤ nrD s k := zNr_pos (fun k hk => (hO.2.1 k hk).2.2.2.1)
  refine ⟨hX, ⟨hD.1.1, h8, fun a b ha hb => ?_, fun a b ha hb => ?_, fun k hk => ?_, fun k => ?_, fun a b c ha hb hc h1 h2 => ?_⟩, ?_, ?_, ?_, ?_, ?_, ?_, ?_⟩
  · rw [sTk_123 h12 (by omega)]; exact hD.2.2.1 a b ha hb
  · rw [sTk_124 h12 (by omega)]; exact hM a b ha hb
  · rw [sTk_123 h12 hk]; exact ⟨hpos k, hng.1 k⟩
  · by_cases hk : k < 64
    · rw [sTk_124 h12 hk]; exact zFar_le hng.1 k
    · show (if k < 64 then zFar (nrS (tk6 s) none) k else s 124 k) ≤ 10000
      rw [if_neg hk]; exact hfb k
  · rw [sTk_123 h12 (by omega)] at h1
    rw [sTk_124 h12 (by omega)] at h2 ⊢
    exact zFar_on hng (nrD_sym hO) ha hb hc h1 h2
  · exact CSr.c (hD.sr hO) (fun k hk => ⟨cpk_lo (by have h9 : k < s 112 1 := hk; omega), cpk_lo (by have h9 : k < s 112 1 := hk; omega), cpk_lo (by have h9 : k < s 112 1 := hk; omega)⟩)
  · rw [sTk_g0]
    exact CSg.c hD.2.2.2.1 (fun k hk => ⟨(congrArg (sTk s 122) (by omega)).trans (sTk_g (j := 3 * k) (by omega)), (congrArg (sTk s 122) (by omega)).trans (sTk_g (j := 3 * k + 1) (by omega)), (congrArg (sTk s 122) (by omega)).trans (sTk_g (j := 3 * k + 2) (by omega))⟩)
  · exact CWk.c hD.2.2.2.2.1 (fun i hi => ⟨cpk_lo (by have h9 : i < s 116 1 := hi; omega), cpk_lo (by have h9 : i < s 116 1 := hi; omega), cpk_lo (by have h9 : i < s 116 1 := hi; omega), sTk_t h13 (by have h9 : i < s 116 1 := hi; omega)⟩)
  · exact hD.2.2.2.2.2
  · exact ⟨0, by omega, h74.1, h74.2, by show (0 : Nat) ≤ 8; omega, fun x hx => by have : x < 0 := hx; omega⟩
  · exact ⟨h80, by show (0 : Nat) ≤ 2; omega, fun x hx => by have : x < 0 := hx; omega⟩
  · exact ⟨h93, by show (0 : Nat) ≤ 8; omega, fun x hx => by have : x < 0 := hx; omega⟩
theorem RInv.lay {s : Nat → Nat → Nat} {f : Bool} (hO : DrF s f) (hn : ∀ k, s 123 k ≤ 10000 ∧ s 124 k ≤ 10000) (ht : s 109 1 ≤ 200) (hx : ∀ k, k < s 109 1 → s 110 k ≤ 126) : RInv (sTk s) := by
  have h8 := hO.1.2.1
  have h12 := hO.1.2.2.1
  have h13 := hO.1.2.2.2.1
  have h4 := hO.1.2.2.2.2
  have hng := nrD_ng hO
  have hsy := nrD_sym hO
  refine ⟨⟨⟨⟨fun k => ?_, fun k => ?_⟩, h8, fun a b ha hb => ?_, fun k hk => ?_⟩, ⟨h4, fun i hi => ?_⟩, ⟨?_, ⟨?_, fun k hk => ?_⟩, fun i hi => ?_⟩, ⟨h12, fun k hk => ?_⟩, fun k hk => ⟨?_, ?_⟩, hO.1.1⟩, ⟨by show (0 : Nat) ≤ 8; omega, by show (0 : Nat) ≤ 2; omega, by show (0 : Nat) ≤ 8; omega, ht⟩, hx, fun k hk => by have : k < 0 := hk; omega, fun k hk => by have : k < 0 := hk; omega, fun k hk => by have : k < 0 := hk; omega⟩
  · by_cases hk : k < 64
    · rw [sTk_123 h12 hk]; exact hng.1 k
    · show (if k < 64 then nrS (tk6 s) none k else s 123 k) ≤ 10000
      rw [if_neg hk]; exact (hn k).1
  · by_cases hk : k < 64
    · rw [sTk_124 h12 hk]; exact zFar_le hng.1 k
    · show (if k < 64 then zFar (nrS (tk6 s) none) k else s 124 k) ≤ 10000
      rw [if_neg hk]; exact (hn k).2
  · rw [sTk_123 h12 (by omega), sTk_123 h12 (by omega)]; exact hsy a b ha hb
  · show cpk (s 120) 3 3 k ≤ 9
    rw [cpk_lo hk]; exact hO.2.2.2.2.1 k hk
  · have hi2 : i < s 116 1 := hi
    have h9 := hO.2.2.2.1 i hi2
    show cpk (s 117) 4 4 i < 4 ∧ cpk (s 118) 4 4 i < 8 ∧ cpk (s 119) 4 4 i < 8
    rw [cpk_lo (by omega), cpk_lo (by omega), cpk_lo (by omega)]
    omega
  · rw [sTk_g0]; exact h13
  · rw [sTk_g0]; omega
  · rw [sTk_g0] at hk
    have hg := hO.2.2.1
    show sTk s 122 (0 + 1 + 3 * k) < 8 ∧ sTk s 122 (0 + 1 + 3 * k + 1) < 8 ∧ sTk s 122 (0 + 1 + 3 * k + 2) < 8
    rw [show 0 + 1 + 3 * k = 1 + 3 * k by omega, show 1 + 3 * k + 1 = 1 + (3 * k + 1) by omega, show 1 + 3 * k + 2 = 1 + (3 * k + 2) by omega, sTk_g (by omega), sTk_g (by omega), sTk_g (by omega)]
    have g1 := hg (3 * k) (by omega)
    have g2 := hg (3 * k + 1) (by omega)
    have g3 := hg (3 * k + 2) (by omega)
    omega
  · have hi2 : i < s 116 1 := hi
    have h9 := hO.2.2.2.1 i hi2
    rw [show 0 + 28 + i = 28 + i by omega, sTk_t h13 (by omega)]
    omega
  · have hk2 : k < s 112 1 := hk
    have h9 := hO.2.1 k hk2
    show cpk (s 113) 12 12 k < 8 ∧ cpk (s 114) 12 12 k < 8 ∧ cpk (s 115) 12 12 k ≤ 20
    rw [cpk_lo (by omega), cpk_lo (by omega), cpk_lo (by omega)]
    omega
  · show (if k < 64 then nrS (tk6 s) none k else s 123 k) = nrS (tk6 s) none k
    rw [if_pos hk]
  · show (if k < 64 then zFar (nrS (tk6 s) none) k else s 124 k) = zFar (nrS (tk6 s) none) k
    rw [if_pos hk]
/-! the towns change places -/
theorem sw_0 {t a k : Nat} (ha : a ≠ 0) : zF t a k = zF 5 a k := by
  unfold zF zFt
  by_cases h : a = 109
  · rw [if_pos h, if_pos h]
  · rw [if_neg h, if_neg h, if_neg ha, if_neg ha]
theorem sw_k {t k : Nat} (h2 : k ≠ 2) (h3 : k ≠ 3) : zF t 0 k = zF 5 0 k := by
  match k with
  | 0 => rfl
  | 1 => rfl
  | 2 => exact absurd rfl h2
  | 3 => exact absurd rfl h3
  | k + 4 => rfl
theorem sw_t {t : Nat} : zuR (zuR (zF t) 0 2 (some (41 - t))) 0 3 (some (41 - (41 - t))) = zF (41 - t) := by
  funext a k
  unfold zuR va_up
  by_cases ha : a = 0
  · subst ha
    rw [if_pos rfl]
    by_cases h3 : k = 3
    · rw [if_pos h3, h3]; rfl
    · rw [if_neg h3, if_pos rfl]
      by_cases h2 : k = 2
      · rw [if_pos h2, h2]; rfl
      · rw [if_neg h2, sw_k h2 h3, sw_k (t := 41 - t) h2 h3]
  · rw [if_neg ha, if_neg ha, sw_0 ha, sw_0 (t := 41 - t) ha]
