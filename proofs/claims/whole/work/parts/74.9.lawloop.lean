section LawLoop
variable {fm : Value} {n : Nat} {xs : Nat → Int32} {l : Launch} {D : va_G}
set_option maxRecDepth 20000 in
theorem law_loop (hn : n ≤ 2048) : ∀ (d i t : Nat) (s : Nat → Nat → Nat) (I : AI), n ≤ i + 4 * d → i ≤ 4096 → LInv t s I → ZC (YL fm n xs) l D zm_L_law SH 18 (zLL i) [] I (zF t) SH (fun v _ _ => v = some 1) := by
  have hexit : ∀ (i t : Nat) (I : AI), n < i + 4 → i ≤ 4096 → ZC (YL fm n xs) l D zm_L_law SH 18 (zLL i) [] I (zF t) SH (fun v _ _ => v = some 1) := by
    intro i t I h hi
    refine C_iload_n (pc := 18) dL_law_18 rfl ?_
    refine C_aload_n (pc := 19) dL_law_19 rfl ?_
    refine C_scl (pc := 20) dL_law_20 ?_
    refine C_iconst (pc := 21) (x := nI 4) dL_law_21 (by decide) ?_
    refine C_isub (pc := 22) dL_law_22 ?_
    refine C_icmp_gtT (pc := 23) (tgt := 961) dL_law_23 (by decide) ((law_gt hn hi).mpr h) ?_
    refine C_iconst (pc := 961) (x := 1) dL_law_961 (by decide) ?_
    exact C_iret (pc := 962) dL_law_962 rfl
  intro d
  induction d with
  | zero => exact fun i t s I h1 hi _ => hexit i t I (by omega) hi
  | succ d ih =>
    intro i t s I h1 hi hV
    by_cases h : n < i + 4
    · exact hexit i t I h hi
    have h4 : i + 4 ≤ n := by omega
    refine C_iload_n (pc := 18) dL_law_18 rfl ?_
    refine C_aload_n (pc := 19) dL_law_19 rfl ?_
    refine C_scl (pc := 20) dL_law_20 ?_
    refine C_iconst (pc := 21) (x := nI 4) dL_law_21 (by decide) ?_
    refine C_isub (pc := 22) dL_law_22 ?_
    refine C_icmp_gtF (pc := 23) (tgt := 961) dL_law_23 (by decide) (fun z => h ((law_gt hn hi).mp z)) ?_
    refine C_aload_n (pc := 26) dL_law_26 rfl ?_
    refine C_iload_n (pc := 27) dL_law_27 rfl ?_
    refine C_sld (pc := 28) i dL_law_28 rfl (by omega) (by omega) ?_
    refine C_bipush (pc := 29) (x := nI 31) dL_law_29 (by decide) ?_
    refine C_iand (pc := 31) dL_law_31 ?_
    have kk : ∀ (t : Nat) (s : Nat → Nat → Nat) (I : AI), LInv t s I → ZC (YL fm n xs) l D zm_L_law SH 955 (zLL i) [] I (zF t) SH (fun v _ _ => v = some 1) := by
      intro t s I hV
      refine C_iinc (pc := 955) (y := nI (i + 4)) dL_law_955 rfl (nI_add i 4) (by decide) rfl ?_
      refine C_goto (pc := 958) (tgt := 18) dL_law_958 (by decide) ?_
      exact ih (i + 4) t s I (by omega) (by omega) hV
    obtain ⟨k, hk, ek⟩ := and31 (xs i)
    refine C_top ek ?_
    have hk2 : k = 0 ∨ k = 1 ∨ k = 2 ∨ k = 3 ∨ k = 4 ∨ k = 5 ∨ k = 6 ∨ k = 7 ∨ k = 8 ∨ k = 9 ∨ k = 10 ∨ k = 11 ∨ k = 12 ∨ k = 13 ∨ k = 14 ∨ k = 15 ∨ k = 16 ∨ k = 17 ∨ k = 18 ∨ k = 19 ∨ k = 20 ∨ k = 21 ∨ k = 22 ∨ k = 23 ∨ k = 24 ∨ k = 25 ∨ k = 26 ∨ k = 27 ∨ k = 28 ∨ k = 29 ∨ k = 30 ∨ k = 31 := by omega
    rcases hk2 with rfl | rfl | rfl | rfl | rfl | rfl | rfl | rfl | rfl | rfl | rfl | rfl | rfl | rfl | rfl | rfl | rfl | rfl | rfl | rfl | rfl | rfl | rfl | rfl | rfl | rfl | rfl | rfl | rfl | rfl | rfl | rfl
    · exact C_tableIn (pc := 32) (tgt := 172) dL_law_32 (by decide) (by decide) (off := 140) (by decide) (by decide) (lc_0 hn h4 hV kk)
    · exact C_tableIn (pc := 32) (tgt := 195) dL_law_32 (by decide) (by decide) (off := 163) (by decide) (by decide) (lc_1 hn h4 hV kk)
    · exact C_tableIn (pc := 32) (tgt := 208) dL_law_32 (by decide) (by decide) (off := 176) (by decide) (by decide) (lc_2 hn h4 hV kk)
    · exact C_tableIn (pc := 32) (tgt := 221) dL_law_32 (by decide) (by decide) (off := 189) (by decide) (by decide) (lc_3 hn h4 hV kk)
    · exact C_tableIn (pc := 32) (tgt := 234) dL_law_32 (by decide) (by decide) (off := 202) (by decide) (by decide) (lc_4 hn h4 hV kk)
    · exact C_tableIn (pc := 32) (tgt := 267) dL_law_32 (by decide) (by decide) (off := 235) (by decide) (by decide) (lc_5 hn h4 hV kk)
    · exact C_tableIn (pc := 32) (tgt := 300) dL_law_32 (by decide) (by decide) (off := 268) (by decide) (by decide) (lc_6 hn h4 hV kk)
    · exact C_tableIn (pc := 32) (tgt := 333) dL_law_32 (by decide) (by decide) (off := 301) (by decide) (by decide) (lc_7 hn h4 hV kk)
    · exact C_tableIn (pc := 32) (tgt := 366) dL_law_32 (by decide) (by decide) (off := 334) (by decide) (by decide) (lc_8 hn h4 hV kk)
    · exact C_tableIn (pc := 32) (tgt := 399) dL_law_32 (by decide) (by decide) (off := 367) (by decide) (by decide) (lc_9 hn h4 hV kk)
    · exact C_tableIn (pc := 32) (tgt := 432) dL_law_32 (by decide) (by decide) (off := 400) (by decide) (by decide) (lc_10 hn h4 hV kk)
    · exact C_tableIn (pc := 32) (tgt := 455) dL_law_32 (by decide) (by decide) (off := 423) (by decide) (by decide) (lc_11 hn h4 hV kk)
    · exact C_tableIn (pc := 32) (tgt := 468) dL_law_32 (by decide) (by decide) (off := 436) (by decide) (by decide) (lc_12 hn h4 hV kk)
    · exact C_tableIn (pc := 32) (tgt := 511) dL_law_32 (by decide) (by decide) (off := 479) (by decide) (by decide) (lc_13 hn h4 hV kk)
    · exact C_tableIn (pc := 32) (tgt := 534) dL_law_32 (by decide) (by decide) (off := 502) (by decide) (by decide) (lc_14 hn h4 hV kk)
    · exact C_tableIn (pc := 32) (tgt := 567) dL_law_32 (by decide) (by decide) (off := 535) (by decide) (by decide) (lc_15 hn h4 hV kk)
    · exact C_tableIn (pc := 32) (tgt := 580) dL_law_32 (by decide) (by decide) (off := 548) (by decide) (by decide) (lc_16 hn h4 hV kk)
    · exact C_tableIn (pc := 32) (tgt := 593) dL_law_32 (by decide) (by decide) (off := 561) (by decide) (by decide) (lc_17 hn h4 hV kk)
    · exact C_tableIn (pc := 32) (tgt := 616) dL_law_32 (by decide) (by decide) (off := 584) (by decide) (by decide) (lc_18 hn h4 hV kk)
    · exact C_tableIn (pc := 32) (tgt := 639) dL_law_32 (by decide) (by decide) (off := 607) (by decide) (by decide) (lc_19 hn h4 hV kk)
    · exact C_tableIn (pc := 32) (tgt := 672) dL_law_32 (by decide) (by decide) (off := 640) (by decide) (by decide) (lc_20 hn h4 hV kk)
    · exact C_tableIn (pc := 32) (tgt := 695) dL_law_32 (by decide) (by decide) (off := 663) (by decide) (by decide) (lc_21 hn h4 hV kk)
    · exact C_tableIn (pc := 32) (tgt := 718) dL_law_32 (by decide) (by decide) (off := 686) (by decide) (by decide) (lc_22 hn h4 hV kk)
    · exact C_tableIn (pc := 32) (tgt := 761) dL_law_32 (by decide) (by decide) (off := 729) (by decide) (by decide) (lc_23 hn h4 hV kk)
    · exact C_tableIn (pc := 32) (tgt := 774) dL_law_32 (by decide) (by decide) (off := 742) (by decide) (by decide) (lc_24 hn h4 hV kk)
    · exact C_tableIn (pc := 32) (tgt := 797) dL_law_32 (by decide) (by decide) (off := 765) (by decide) (by decide) (lc_25 hn h4 hV kk)
    · exact C_tableIn (pc := 32) (tgt := 830) dL_law_32 (by decide) (by decide) (off := 798) (by decide) (by decide) (lc_26 hn h4 hV kk)
    · exact C_tableIn (pc := 32) (tgt := 873) dL_law_32 (by decide) (by decide) (off := 841) (by decide) (by decide) (lc_27 hn h4 hV kk)
    · exact C_tableIn (pc := 32) (tgt := 906) dL_law_32 (by decide) (by decide) (off := 874) (by decide) (by decide) (lc_28 hn h4 hV kk)
    · exact C_tableIn (pc := 32) (tgt := 919) dL_law_32 (by decide) (by decide) (off := 887) (by decide) (by decide) (lc_29 hn h4 hV kk)
    · exact C_tableIn (pc := 32) (tgt := 932) dL_law_32 (by decide) (by decide) (off := 900) (by decide) (by decide) (lc_30 hn h4 hV kk)
    · exact C_tableOut (pc := 32) (tgt := 955) dL_law_32 (Or.inr (by decide)) (by decide) (kk t s I hV)
theorem y_law (hfm : fmOk fm) (hn : n ≤ 2048) : ZC (YL fm n xs) l D zm_L_law SH 0 (zent 4 [.ref 90000]) [] z0 fN [] (fun v _ _ => v = some 1) := by
  show ZC _ _ _ _ _ _ [some _, none, none, none] _ _ _ _ _
  have h0 : fN = zFov fN fl_0 := rfl
  rw [h0]
  refine L_new (pc := 0) (n := 0) (sh2 := SH.take 1) 11 dL_law_0 (by decide) kl_L_7 in_X11 it_X11 rfl (fun _ => rfl) rfl (fun _ => rfl) (by decide +kernel) rfl rfl rfl ?_
  refine C_dup (pc := 3) dL_law_3 rfl ?_
  rw [← h0]
  obtain ⟨_, J, _, k1, rfl, rfl, hCR, hz⟩ := y_sys (fm := fm) (l := l) (D := D) hfm
  refine C_callI (pc := 4) (S := [.ref 0]) (As := []) (zYo_L fm n xs) (k1.mono (fun _ _ _ h => h.1)) dL_law_4 ok_X11_init ml_L_9 ii_X11_init ⟨by decide, by decide⟩ rfl ⟨rfl, by decide⟩ (Nat.le_of_ble_eq_true rfl) (zNew_of (n := 1) rfl (by decide +kernel) rfl rfl) ?_
  refine C_astore_n (pc := 7) dL_law_7 (by decide) rfl ?_
  have h1 : zF_o 36 = zFov (zF_o 36) rf_0 := rfl
  rw [h1]
  refine L_new (pc := 8) (n := 109) (sh2 := SH.take 110) 12 dL_law_8 (by decide) kl_L_10 in_X12 it_X12 rfl (fun k => hz 109 k (by decide)) rfl (fun k => if_neg (by decide)) (by decide +kernel) rfl rfl (by decide +kernel) ?_
  rw [← h1]
  refine C_dup (pc := 11) dL_law_11 rfl ?_
  obtain ⟨_, K, _, k2, rfl, rfl, hA, hF⟩ := y_ref (Y := YL fm n xs) (l := l) (D := D) (zYo_L fm n xs) hz
  refine C_callI (pc := 12) (S := [.ref 109]) (As := []) (zYo_L fm n xs) k2 dL_law_12 ok_X12_init ml_L_12 ii_X12_init ⟨by decide, by decide⟩ rfl ⟨rfl, by decide⟩ (Nat.le_of_ble_eq_true rfl) (zNew_of (n := 110) rfl (by decide +kernel) rfl rfl) ?_
  refine C_astore_n (pc := 15) dL_law_15 (by decide) rfl ?_
  refine C_iconst (pc := 16) (x := nI 0) dL_law_16 (by decide) ?_
  refine C_istore_n (pc := 17) dL_law_17 (by decide) rfl ?_
  exact law_loop hn 2048 0 36 (sTk sD0) K (by omega) (by omega) ⟨Or.inr rfl, hCR.frm hF (Or.inr rfl), RInv.first, hA⟩
end LawLoop
