/-! the system's own constructor -/
theorem sh109 : SH.take 109 = SH_o := by decide +kernel
theorem zF_o5a : fl_72.all (fun q => decide (zF_o 5 q.1 q.2.1 = some q.2.2)) = true := by decide +kernel
theorem zF_o5b : (List.range 109).all (fun a => (List.range (zFt 5 a).length).all (fun k => (zF_o 5 a k).isNone || (fl_72.find? (fun q => q.1 == a && q.2.1 == k)).isSome)) = true := by decide +kernel
theorem zF_o5 : zFov fN fl_72 = zF_o 5 := by
  funext a k
  unfold zFov
  cases h : fl_72.find? (fun q => q.1 == a && q.2.1 == k) with
  | some q =>
    have h1 := List.all_eq_true.mp zF_o5a q (List.mem_of_find?_eq_some h)
    have h2 : (q.1 == a && q.2.1 == k) = true := by have := List.find?_some h; exact this
    simp only [Bool.and_eq_true, beq_iff_eq] at h2
    simp only [decide_eq_true_eq] at h1
    rw [h2.1, h2.2] at h1
    exact h1.symm
  | none =>
    show none = zF_o 5 a k
    cases h3 : zF_o 5 a k with
    | none => rfl
    | some b =>
      exfalso
      have ha : a < 109 := by
        by_cases ha : a < 109
        · exact ha
        · unfold zF_o at h3
          rw [if_neg ha] at h3
          cases h3
      have h4 : zF 5 a k = some b := by
        unfold zF_o at h3
        rw [if_pos ha] at h3
        exact h3
      have hk : k < (zFt 5 a).length := by
        by_cases hk : k < (zFt 5 a).length
        · exact hk
        · unfold zF at h4
          rw [List.getD_eq_getElem?_getD, List.getElem?_eq_none (by omega)] at h4
          cases h4
      have h5 := List.all_eq_true.mp (List.all_eq_true.mp zF_o5b a (List.mem_range.mpr ha)) k (List.mem_range.mpr hk)
      rw [h3, h] at h5
      cases h5
theorem zuR_lim {F : AR} {a k : Nat} {x : Option Nat} (ha : a < 109) : zuR (fun a k => if a < 109 then F a k else none) a k x = fun b j => if b < 109 then zuR F a k x b j else none := by
  funext b j
  unfold zuR va_up
  by_cases hb : b = a
  · subst hb
    rw [if_pos rfl, if_pos ha, if_pos rfl]
    by_cases hj : j = k
    · rw [if_pos hj, if_pos hj]
    · rw [if_neg hj, if_neg hj]; exact if_pos ha
  · rw [if_neg hb, if_neg hb]
theorem sw_o : zuR (zuR (zF_o 5) 0 2 (some (41 - 5))) 0 3 (some 5) = zF_o 36 := by
  have h := sw_t (t := 5)
  unfold zF_o
  rw [zuR_lim (by decide), zuR_lim (by decide)]
  have h2 : zuR (zuR (zF 5) 0 2 (some (41 - 5))) 0 3 (some 5) = zF 36 := h
  rw [h2]
set_option maxRecDepth 20000 in
theorem y_sys0 {Y : YP} {l : Launch} {D : va_G} {Post : Option Int32 → AI → AR → Prop} (hYo : zYo Y) (kk : ZC Y l D zm_X11_init (SH.take 109) 141 [some (.ref 0), none] [] z0 (zFov fN fl_72) (SH.take 109) Post) : ZC Y l D zm_X11_init (SH.take 109) 0 (zent 2 [.ref 0]) [] z0 (zFov fN fl_0) (SH.take 1) Post := by
  show ZC _ _ _ _ _ _ [some _, none] _ _ _ _ _
  refine C_aload_n (pc := 0) dX11_init_0 rfl ?_
  refine C_obj (pc := 1) dX11_init_1 ol_X11_1 (by decide) (by decide) ?_
  refine C_aload_n (pc := 4) dX11_init_4 rfl ?_
  refine L_new (pc := 5) (n := 1) (sh2 := (SH.take 2)) 7 dX11_init_5 (by decide) kl_X11_7 in_X7 it_X7 rfl (fun _ => rfl) rfl (fun _ => rfl) (by decide +kernel) rfl rfl rfl ?_
  refine C_dup (pc := 8) dX11_init_8 rfl ?_
  obtain ⟨_, _, _, k9, rfl, rfl, rfl⟩ := y_X7_1_2 (Y := Y) (l := l) (D := D) hYo
  refine C_callI (pc := 9) (S := [.ref 1, .ref 0]) (As := []) hYo k9 dX11_init_9 ok_X7_init ml_X11_9 ii_X7_init ⟨by decide, by decide⟩ rfl ⟨rfl, by decide⟩ (Nat.le_of_ble_eq_true rfl) (zNew_of (n := 2) rfl (by decide +kernel) rfl rfl) ?_
  refine L_putr (pc := 12) (l1 := fl_2) 11 0 dX11_init_12 fl_X11_10 (n := 13) rfl fr_11_0 (Or.inr ⟨rfl, rfl, zT_in 540 (by decide +kernel) (by decide +kernel)⟩) (by decide) (fun q => rfl) (fun q => rfl) rfl ?_
  refine C_aload_n (pc := 15) dX11_init_15 rfl ?_
  refine L_new (pc := 16) (n := 3) (sh2 := (SH.take 4)) 2 dX11_init_16 (by decide) kl_X11_16 in_X2 it_X2 rfl (fun _ => rfl) rfl (fun _ => rfl) (by decide +kernel) rfl rfl rfl ?_
  refine C_dup (pc := 19) dX11_init_19 rfl ?_
  obtain ⟨_, _, _, k20, rfl, rfl, rfl⟩ := y_X2_3_4 (Y := Y) (l := l) (D := D) hYo
  refine C_callI (pc := 20) (S := [.ref 3, .ref 0]) (As := []) hYo k20 dX11_init_20 ok_X2_init ml_X11_18 ii_X2_init ⟨by decide, by decide⟩ rfl ⟨rfl, by decide⟩ (Nat.le_of_ble_eq_true rfl) (zNew_of (n := 4) rfl (by decide +kernel) rfl rfl) ?_
  refine L_putr (pc := 23) (l1 := fl_4) 11 1 dX11_init_23 fl_X11_19 (n := 13) rfl fr_11_1 (Or.inr ⟨rfl, rfl, zT_in 541 (by decide +kernel) (by decide +kernel)⟩) (by decide) (fun q => rfl) (fun q => rfl) rfl ?_
  refine C_aload_n (pc := 26) dX11_init_26 rfl ?_
  refine L_new (pc := 27) (n := 5) (sh2 := (SH.take 6)) 8 dX11_init_27 (by decide) kl_X11_23 in_X8 it_X8 rfl (fun _ => rfl) rfl (fun _ => rfl) (by decide +kernel) rfl rfl rfl ?_
  refine C_dup (pc := 30) dX11_init_30 rfl ?_
  obtain ⟨_, _, _, k31, rfl, rfl, rfl⟩ := y_X8_5_6 (Y := Y) (l := l) (D := D) hYo
  refine C_callI (pc := 31) (S := [.ref 5, .ref 0]) (As := []) hYo k31 dX11_init_31 ok_X8_init ml_X11_25 ii_X8_init ⟨by decide, by decide⟩ rfl ⟨rfl, by decide⟩ (Nat.le_of_ble_eq_true rfl) (zNew_of (n := 6) rfl (by decide +kernel) rfl rfl) ?_
  refine L_putr (pc := 34) (l1 := fl_21) 11 2 dX11_init_34 fl_X11_26 (n := 13) rfl fr_11_2 (Or.inl rfl) (by decide) (fun q => rfl) (fun q => rfl) rfl ?_
  refine C_aload_n (pc := 37) dX11_init_37 rfl ?_
  refine L_new (pc := 38) (n := 36) (sh2 := (SH.take 37)) 8 dX11_init_38 (by decide) kl_X11_23 in_X8 it_X8 rfl (fun _ => rfl) rfl (fun _ => rfl) (by decide +kernel) rfl rfl rfl ?_
  refine C_dup (pc := 41) dX11_init_41 rfl ?_
  obtain ⟨_, _, _, k42, rfl, rfl, rfl⟩ := y_X8_36_37 (Y := Y) (l := l) (D := D) hYo
  refine C_callI (pc := 42) (S := [.ref 36, .ref 0]) (As := []) hYo k42 dX11_init_42 ok_X8_init ml_X11_25 ii_X8_init ⟨by decide, by decide⟩ rfl ⟨rfl, by decide⟩ (Nat.le_of_ble_eq_true rfl) (zNew_of (n := 37) rfl (by decide +kernel) rfl rfl) ?_
  refine L_putr (pc := 45) (l1 := fl_38) 11 3 dX11_init_45 fl_X11_30 (n := 13) rfl fr_11_3 (Or.inl rfl) (by decide) (fun q => rfl) (fun q => rfl) rfl ?_
  refine C_aload_n (pc := 48) dX11_init_48 rfl ?_
  refine L_new (pc := 49) (n := 67) (sh2 := (SH.take 68)) 9 dX11_init_49 (by decide) kl_X11_33 in_X9 it_X9 rfl (fun _ => rfl) rfl (fun _ => rfl) (by decide +kernel) rfl rfl rfl ?_
  refine C_dup (pc := 52) dX11_init_52 rfl ?_
  obtain ⟨_, _, _, k53, rfl, rfl, rfl⟩ := y_X9_67_68 (Y := Y) (l := l) (D := D) hYo
  refine C_callI (pc := 53) (S := [.ref 67, .ref 0]) (As := []) hYo k53 dX11_init_53 ok_X9_init ml_X11_35 ii_X9_init ⟨by decide, by decide⟩ rfl ⟨rfl, by decide⟩ (Nat.le_of_ble_eq_true rfl) (zNew_of (n := 68) rfl (by decide +kernel) rfl rfl) ?_
  refine L_putr (pc := 56) (l1 := fl_41) 11 4 dX11_init_56 fl_X11_36 (n := 13) rfl fr_11_4 (Or.inr ⟨rfl, rfl, zT_in 544 (by decide +kernel) (by decide +kernel)⟩) (by decide) (fun q => rfl) (fun q => rfl) rfl ?_
  refine C_aload_n (pc := 59) dX11_init_59 rfl ?_
  refine L_new (pc := 60) (n := 70) (sh2 := (SH.take 71)) 5 dX11_init_60 (by decide) kl_X11_40 in_X5 it_X5 rfl (fun _ => rfl) rfl (fun _ => rfl) (by decide +kernel) rfl rfl rfl ?_
  refine C_dup (pc := 63) dX11_init_63 rfl ?_
  obtain ⟨_, _, _, k64, rfl, rfl, rfl⟩ := y_X5_70_71 (Y := Y) (l := l) (D := D) hYo
  refine C_callI (pc := 64) (S := [.ref 70, .ref 0]) (As := []) hYo k64 dX11_init_64 ok_X5_init ml_X11_42 ii_X5_init ⟨by decide, by decide⟩ rfl ⟨rfl, by decide⟩ (Nat.le_of_ble_eq_true rfl) (zNew_of (n := 71) rfl (by decide +kernel) rfl rfl) ?_
  refine L_putr (pc := 67) (l1 := fl_45) 11 5 dX11_init_67 fl_X11_43 (n := 13) rfl fr_11_5 (Or.inr ⟨rfl, rfl, zT_in 545 (by decide +kernel) (by decide +kernel)⟩) (by decide) (fun q => rfl) (fun q => rfl) rfl ?_
  refine C_aload_n (pc := 70) dX11_init_70 rfl ?_
  refine L_new (pc := 71) (n := 74) (sh2 := (SH.take 75)) 0 dX11_init_71 (by decide) kl_X11_47 in_X0 it_X0 rfl (fun _ => rfl) rfl (fun _ => rfl) (by decide +kernel) rfl rfl rfl ?_
  refine C_dup (pc := 74) dX11_init_74 rfl ?_
  obtain ⟨_, _, _, k75, rfl, rfl, rfl⟩ := y_X0_74_75 (Y := Y) (l := l) (D := D) hYo
  refine C_callI (pc := 75) (S := [.ref 74, .ref 0]) (As := []) hYo k75 dX11_init_75 ok_X0_init ml_X11_49 ii_X0_init ⟨by decide, by decide⟩ rfl ⟨rfl, by decide⟩ (Nat.le_of_ble_eq_true rfl) (zNew_of (n := 75) rfl (by decide +kernel) rfl rfl) ?_
  refine L_putr (pc := 78) (l1 := fl_51) 11 6 dX11_init_78 fl_X11_50 (n := 13) rfl fr_11_6 (Or.inr ⟨rfl, rfl, zT_in 546 (by decide +kernel) (by decide +kernel)⟩) (by decide) (fun q => rfl) (fun q => rfl) rfl ?_
  refine C_aload_n (pc := 81) dX11_init_81 rfl ?_
  refine L_new (pc := 82) (n := 80) (sh2 := (SH.take 81)) 3 dX11_init_82 (by decide) kl_X11_54 in_X3 it_X3 rfl (fun _ => rfl) rfl (fun _ => rfl) (by decide +kernel) rfl rfl rfl ?_
  refine C_dup (pc := 85) dX11_init_85 rfl ?_
  obtain ⟨_, _, _, k86, rfl, rfl, rfl⟩ := y_X3_80_81 (Y := Y) (l := l) (D := D) hYo
  refine C_callI (pc := 86) (S := [.ref 80, .ref 0]) (As := []) hYo k86 dX11_init_86 ok_X3_init ml_X11_56 ii_X3_init ⟨by decide, by decide⟩ rfl ⟨rfl, by decide⟩ (Nat.le_of_ble_eq_true rfl) (zNew_of (n := 81) rfl (by decide +kernel) rfl rfl) ?_
  refine L_putr (pc := 89) (l1 := fl_63) 11 7 dX11_init_89 fl_X11_57 (n := 13) rfl fr_11_7 (Or.inr ⟨rfl, rfl, zT_in 547 (by decide +kernel) (by decide +kernel)⟩) (by decide) (fun q => rfl) (fun q => rfl) rfl ?_
  refine C_aload_n (pc := 92) dX11_init_92 rfl ?_
  refine L_new (pc := 93) (n := 93) (sh2 := (SH.take 94)) 4 dX11_init_93 (by decide) kl_X11_61 in_X4 it_X4 rfl (fun _ => rfl) rfl (fun _ => rfl) (by decide +kernel) rfl rfl rfl ?_
  refine C_dup (pc := 96) dX11_init_96 rfl ?_
  obtain ⟨_, _, _, k97, rfl, rfl, rfl⟩ := y_X4_93_94 (Y := Y) (l := l) (D := D) hYo
  refine C_callI (pc := 97) (S := [.ref 93, .ref 0]) (As := []) hYo k97 dX11_init_97 ok_X4_init ml_X11_63 ii_X4_init ⟨by decide, by decide⟩ rfl ⟨rfl, by decide⟩ (Nat.le_of_ble_eq_true rfl) (zNew_of (n := 94) rfl (by decide +kernel) rfl rfl) ?_
  refine L_putr (pc := 100) (l1 := fl_67) 11 8 dX11_init_100 fl_X11_64 (n := 13) rfl fr_11_8 (Or.inr ⟨rfl, rfl, zT_in 548 (by decide +kernel) (by decide +kernel)⟩) (by decide) (fun q => rfl) (fun q => rfl) rfl ?_
  refine C_aload_n (pc := 103) dX11_init_103 rfl ?_
  refine L_new (pc := 104) (n := 97) (sh2 := (SH.take 98)) 1 dX11_init_104 (by decide) kl_X11_68 in_X1 it_X1 rfl (fun _ => rfl) rfl (fun _ => rfl) (by decide +kernel) rfl rfl rfl ?_
  refine C_dup (pc := 107) dX11_init_107 rfl ?_
  obtain ⟨_, _, _, k108, rfl, rfl, rfl⟩ := y_X1_97_98 (Y := Y) (l := l) (D := D) hYo
  refine C_callI (pc := 108) (S := [.ref 97, .ref 0]) (As := []) hYo k108 dX11_init_108 ok_X1_init ml_X11_70 ii_X1_init ⟨by decide, by decide⟩ rfl ⟨rfl, by decide⟩ (Nat.le_of_ble_eq_true rfl) zNew.rf ?_
  refine L_putr (pc := 111) (l1 := fl_68) 11 9 dX11_init_111 fl_X11_71 (n := 13) rfl fr_11_9 (Or.inr ⟨rfl, rfl, zT_in 549 (by decide +kernel) (by decide +kernel)⟩) (by decide) (fun q => rfl) (fun q => rfl) rfl ?_
  refine C_aload_n (pc := 114) dX11_init_114 rfl ?_
  refine C_bipush (pc := 115) (x := nI 8) dX11_init_115 (by decide) ?_
  refine C_bipush (pc := 117) (x := nI 8) dX11_init_117 (by decide) ?_
  refine L_multi (pc := 119) (n := 98) (sh2 := (SH.take 107)) (l1 := fl_69) 8 8 dX11_init_119 kl_X11_75 ao_int ac_int (by decide) (by decide) rfl (fun _ _ _ => rfl) rfl (fun _ => rfl) (by decide +kernel) rfl rfl rfl rfl ?_
  refine L_putr (pc := 123) (l1 := fl_70) 11 10 dX11_init_123 fl_X11_77 (n := 13) rfl fr_11_10 (Or.inr ⟨rfl, rfl, zT_in 550 (by decide +kernel) (by decide +kernel)⟩) (by decide) (fun q => rfl) (fun q => rfl) rfl ?_
  refine C_aload_n (pc := 126) dX11_init_126 rfl ?_
  refine C_bipush (pc := 127) (x := nI 8) dX11_init_127 (by decide) ?_
  refine L_newa (pc := 129) (n := 107) (sh2 := (SH.take 108)) 15 8 dX11_init_129 rfl rfl rfl ac_int (by decide) (by decide) rfl (fun _ => rfl) (by decide +kernel) rfl rfl rfl ?_
  refine L_putr (pc := 131) (l1 := fl_71) 11 11 dX11_init_131 fl_X11_80 (n := 13) rfl fr_11_11 (Or.inr ⟨rfl, rfl, zT_in 551 (by decide +kernel) (by decide +kernel)⟩) (by decide) (fun q => rfl) (fun q => rfl) rfl ?_
  refine C_aload_n (pc := 134) dX11_init_134 rfl ?_
  refine C_iconst (pc := 135) (x := nI 4) dX11_init_135 (by decide) ?_
  refine L_newa (pc := 136) (n := 108) (sh2 := (SH.take 109)) 15 4 dX11_init_136 rfl rfl rfl ac_int (by decide) (by decide) rfl (fun _ => rfl) (by decide +kernel) rfl rfl rfl ?_
  refine L_putr (pc := 138) (l1 := fl_72) 11 12 dX11_init_138 fl_X11_84 (n := 13) rfl fr_11_12 (Or.inr ⟨rfl, rfl, zT_in 552 (by decide +kernel) (by decide +kernel)⟩) (by decide) (fun q => rfl) (fun q => rfl) rfl ?_
  exact kk
set_option maxRecDepth 20000 in
theorem c_lay_o {l : Launch} {D : va_G} {I : AI} {s s3 : Nat → Nat → Nat} (hX : CTx (s 110) (s 109 1) I) (hz : zPar 201 (sIni s) true 0 = .inr s3) (hw : ¬ s3 116 1 = 0) : ZP_o l D zm_X11_lay 0 (zent 2 [.ref 0]) [] I (zF_o 5) (fun v J G => v = some (nI (s3 111 1)) ∧ G = zF_o 36 ∧ DrC s3 J 36 ∧ zRw 50 (fun a b => zFar (nrD s3) (8 * a + b)) J ∧ (J 74 5 = nI 0 ∧ J 74 6 = nI 0) ∧ J 80 2 = nI 0 ∧ J 93 3 = nI 0 ∧ (∀ a, 109 ≤ a → J a = I a) ∧ J 1 1 = I 1 1) := by
  show ZP_o _ _ _ _ [some _, none] _ _ _ _
  refine P_aload_n_o (pc := 0) dX11_lay_0 rfl ?_
  refine P_getr_o (pc := 1) 11 1 dX11_lay_1 fl_X11_19 sh_0_o fr_11_1 F_0_1_o ?_
  refine P_aload_n_o (pc := 4) dX11_lay_4 rfl ?_
  refine P_getr_o (pc := 5) 11 3 dX11_lay_5 fl_X11_30 sh_0_o fr_11_3 F_0_3_o ?_
  refine P_aload_n_o (pc := 8) dX11_lay_8 rfl ?_
  refine P_getr_o (pc := 9) 11 0 dX11_lay_9 fl_X11_10 sh_0_o fr_11_0 F_0_0_o ?_
  obtain ⟨_, Q, _, kq, rfl, rfl, hQ1, hQ2⟩ := c_readInto_36_o (l := l) (D := D) (tw := 5) (I := I) (s0 := s) hX
  refine P_callV_o (pc := 12) (S := []) (As := [_, _]) kq dX11_lay_12 ok_X2_readInto ml_X11_112 iv_X2_readInto ⟨by decide, by decide⟩ (zret_i _) rfl ⟨rfl, by decide⟩ sh_3_o ⟨by decide, rfl⟩ (Nat.le_of_ble_eq_true rfl) ?_
  obtain ⟨hD, f3, hO⟩ := hQ2 s3 hz
  have hfa : aFault s = -4 := by unfold aFault; rw [hz]
  have hw4 := hO.1.2.2.2.2
  rw [hfa]
  refine P_bipush_o (pc := 15) (x := (-4)) dX11_lay_15 (by decide) ?_
  refine P_icmp_neF_o (pc := 17) (tgt := 33) dX11_lay_17 (by decide) (by decide) ?_
  refine P_aload_n_o (pc := 20) dX11_lay_20 rfl ?_
  refine P_getr_o (pc := 21) 11 3 dX11_lay_21 fl_X11_30 sh_0_o fr_11_3 F_0_3_o ?_
  refine P_getr_o (pc := 24) 8 2 dX11_lay_24 fl_X11_116 sh_36_o fr_8_2 F_36_2_o ?_
  refine P_geti_o (pc := 27) 10 4 (x := nI (s3 116 1)) dX11_lay_27 fl_X11_120 sh_62_o fi_10_4 (hD.2.2.2.2.1.1) ?_
  refine P_if_neN_o (pc := 30) (tgt := 36) dX11_lay_30 (by decide) (by omega) (fun h30 => ?_) (fun h30 => absurd h30 hw)
  refine P_aload_n_o (pc := 36) dX11_lay_36 rfl ?_
  refine P_getr_o (pc := 37) 11 2 dX11_lay_37 fl_X11_26 sh_0_o fr_11_2 F_0_2_o ?_
  refine P_astore_n_o (pc := 40) dX11_lay_40 (by decide) rfl ?_
  refine P_aload_n_o (pc := 41) dX11_lay_41 rfl ?_
  refine P_aload_n_o (pc := 42) dX11_lay_42 rfl ?_
  refine P_getr_o (pc := 43) 11 3 dX11_lay_43 fl_X11_30 sh_0_o fr_11_3 F_0_3_o ?_
  refine P_putr_o (pc := 46) 11 2 dX11_lay_46 fl_X11_26 sh_0_o fr_11_2 (by decide) (by decide) (fun q => rfl) (fun q => rfl) ?_
  refine P_aload_n_o (pc := 49) dX11_lay_49 rfl ?_
  refine P_aload_n_o (pc := 50) dX11_lay_50 rfl ?_
  refine P_putr_o (pc := 51) 11 3 dX11_lay_51 fl_X11_30 sh_0_o fr_11_3 (by decide) (by decide) (fun q => rfl) (fun q => rfl) ?_
  have hsw := sw_o
  rw [hsw]
  refine P_aload_n_o (pc := 54) dX11_lay_54 rfl ?_
  refine P_getr_o (pc := 55) 11 2 dX11_lay_55 fl_X11_26 sh_0_o fr_11_2 F_0_2_o ?_
  refine P_getr_o (pc := 58) 8 0 dX11_lay_58 fl_X11_125 sh_36_o fr_8_0 F_36_0_o ?_
  refine P_aload_n_o (pc := 61) dX11_lay_61 rfl ?_
  refine P_getr_o (pc := 62) 11 2 dX11_lay_62 fl_X11_26 sh_0_o fr_11_2 F_0_2_o ?_
  refine P_getr_o (pc := 65) 8 0 dX11_lay_65 fl_X11_125 sh_36_o fr_8_0 F_36_0_o ?_
  refine P_getr_o (pc := 68) 6 5 dX11_lay_68 fl_X11_129 sh_37_o fr_6_5 F_37_5_o ?_
  refine P_iconst_o (pc := 71) (x := (-1)) dX11_lay_71 (by decide) ?_
  obtain ⟨_, K, _, km, rfl, rfl, hK1, hK2⟩ := c_measure_36_49_o (l := l) (D := D) (tw := 36) (I := Q) (hD.sr hO) (w := none) (fun q e => by cases e)
  refine P_callV_o (pc := 72) (S := []) (As := [_, _]) km dX11_lay_72 ok_X6_measure ml_X11_134 iv_X6_measure ⟨by decide, by decide⟩ zret_v rfl ⟨rfl, by decide⟩ sh_37_o ⟨by decide, rfl⟩ (Nat.le_of_ble_eq_true rfl) ?_
  refine P_aload_n_o (pc := 75) dX11_lay_75 rfl ?_
  refine P_getr_o (pc := 76) 11 6 dX11_lay_76 fl_X11_50 sh_0_o fr_11_6 F_0_6_o ?_
  obtain ⟨_, K2, _, kc, rfl, rfl, hZ⟩ := c_chclear_o (l := l) (D := D) (tw := 36) (I := K)
  have hZo : ∀ a, a ≠ 74 → K2 a = K a := fun a ha => by rw [hZ]; exact (zu_o _ _ ha).trans (zu_o _ _ ha)
  refine P_callV_o (pc := 79) (S := []) (As := []) kc dX11_lay_79 ok_X0_clear ml_X11_138 iv_X0_clear ⟨by decide, by decide⟩ zret_v rfl ⟨rfl, by decide⟩ sh_74_o ⟨by decide, rfl⟩ (Nat.le_of_ble_eq_true rfl) ?_
  refine P_aload_n_o (pc := 82) dX11_lay_82 rfl ?_
  refine P_getr_o (pc := 83) 11 7 dX11_lay_83 fl_X11_57 sh_0_o fr_11_7 F_0_7_o ?_
  refine P_iconst_o (pc := 86) (x := nI 0) dX11_lay_86 (by decide) ?_
  refine P_puti_o (pc := 87) 3 2 dX11_lay_87 fl_X11_141 sh_80_o fp_3_2 rfl rfl ?_
  refine P_aload_n_o (pc := 90) dX11_lay_90 rfl ?_
  refine P_getr_o (pc := 91) 11 8 dX11_lay_91 fl_X11_64 sh_0_o fr_11_8 F_0_8_o ?_
  refine P_iconst_o (pc := 94) (x := nI 0) dX11_lay_94 (by decide) ?_
  refine P_puti_o (pc := 95) 4 3 dX11_lay_95 fl_X11_142 sh_93_o fp_4_3 rfl rfl ?_
  refine P_aload_n_o (pc := 98) dX11_lay_98 rfl ?_
  refine P_getr_o (pc := 99) 11 2 dX11_lay_99 fl_X11_26 sh_0_o fr_11_2 F_0_2_o ?_
  refine P_getr_o (pc := 102) 8 0 dX11_lay_102 fl_X11_125 sh_36_o fr_8_0 F_36_0_o ?_
  refine P_geti_o (pc := 105) 6 0 (x := nI (s3 111 1)) dX11_lay_105 fl_X11_143 sh_37_o fi_6_0 ((congrFun ((zu_o _ _ (by decide)).trans ((zu_o _ _ (by decide)).trans ((hZo 37 (by decide)).trans (hK1 37 (by decide))))) 0).trans hD.1.1) ?_
  refine P_iret_o (pc := 108) dX11_lay_108 ?_
  have hfr : ∀ a, a ≠ 74 → a ≠ 80 → a ≠ 93 → (a < 50 ∨ 58 ≤ a) → zu (zu K2 80 2 (nI 0)) 93 3 (nI 0) a = Q a := fun a h1 h2 h3 h4 => (zu_o _ _ h3).trans ((zu_o _ _ h2).trans ((hZo a h1).trans (hK1 a (by omega))))
  have hDf : DrC s3 (zu (zu K2 80 2 (nI 0)) 93 3 (nI 0)) 36 := ⟨⟨by rw [hfr _ (by decide) (by decide) (by decide) (by decide)]; exact hD.1.1, by rw [hfr _ (by decide) (by decide) (by decide) (by decide)]; exact hD.1.2⟩, fun k hk => by rw [hfr _ (by decide) (by decide) (by decide) (by decide), hfr _ (by decide) (by decide) (by decide) (by decide)]; exact hD.2.1 k hk, fun a b ha hb => by rw [hfr _ (by omega) (by omega) (by omega) (by omega)]; exact hD.2.2.1 a b ha hb, hD.2.2.2.1.eq (hfr _ (by decide) (by decide) (by decide) (by decide)) (hfr _ (by decide) (by decide) (by decide) (by decide)) (hfr _ (by decide) (by decide) (by decide) (by decide)) (hfr _ (by decide) (by decide) (by decide) (by decide)), hD.2.2.2.2.1.eq (hfr _ (by decide) (by decide) (by decide) (by decide)) (hfr _ (by decide) (by decide) (by decide) (by decide)) (hfr _ (by decide) (by decide) (by decide) (by decide)) (hfr _ (by decide) (by decide) (by decide) (by decide)) (hfr _ (by decide) (by decide) (by decide) (by decide)), by rw [hfr 36 (by decide) (by decide) (by decide) (by decide)]; exact hD.2.2.2.2.2⟩
  have hMf : zRw 50 (fun a b => zFar (nrD s3) (8 * a + b)) (zu (zu K2 80 2 (nI 0)) 93 3 (nI 0)) := fun a b ha hb => by
    rw [zu_o _ _ (by omega), zu_o _ _ (by omega), hZo _ (by omega)]
    exact hK2 a b ha hb
  have h74 : (zu (zu K2 80 2 (nI 0)) 93 3 (nI 0)) 74 5 = nI 0 ∧ (zu (zu K2 80 2 (nI 0)) 93 3 (nI 0)) 74 6 = nI 0 := by
    have e9 : (zu (zu K2 80 2 (nI 0)) 93 3 (nI 0)) 74 = K2 74 := (zu_o _ _ (by decide)).trans (zu_o _ _ (by decide))
    rw [e9, hZ]
    exact ⟨rfl, rfl⟩
  refine ⟨rfl, rfl, hDf, hMf, h74, rfl, rfl, fun a ha => (hfr a (by omega) (by omega) (by omega) (by omega)).trans (hQ1 a (by omega) (by omega) (by omega)), ?_⟩
  exact congrFun ((hfr 1 (by decide) (by decide) (by decide) (by decide)).trans (hQ1 1 (by omega) (by omega) (by omega))) 1
set_option maxRecDepth 20000 in
theorem c_wipe_o {l : Launch} {D : va_G} {tw : Nat} {I : AI} {n : Int32} (h : I 1 1 = n) : ZP_o l D zm_X11_wipe 0 (zent 2 [.ref 0]) [] I (zF_o tw) (fun v J G => v = some n ∧ G = zF_o tw ∧ J = zu I 1 1 (nI 0)) := by
  show ZP_o _ _ _ _ [some _, none] _ _ _ _
  refine P_aload_n_o (pc := 0) dX11_wipe_0 rfl ?_
  refine P_getr_o (pc := 1) 11 0 dX11_wipe_1 fl_X11_10 sh_0_o fr_11_0 F_0_0_o ?_
  refine P_geti_o (pc := 4) 7 1 (x := n) dX11_wipe_4 fl_X11_109 sh_1_o fi_7_1 h ?_
  refine P_istore_n_o (pc := 7) dX11_wipe_7 (by decide) rfl ?_
  refine P_aload_n_o (pc := 8) dX11_wipe_8 rfl ?_
  refine P_getr_o (pc := 9) 11 0 dX11_wipe_9 fl_X11_10 sh_0_o fr_11_0 F_0_0_o ?_
  refine P_iconst_o (pc := 12) (x := nI 0) dX11_wipe_12 (by decide) ?_
  refine P_puti_o (pc := 13) 7 1 dX11_wipe_13 fl_X11_109 sh_1_o fp_7_1 rfl rfl ?_
  refine P_iload_n_o (pc := 16) dX11_wipe_16 rfl ?_
  exact P_iret_o (pc := 17) dX11_wipe_17 ⟨rfl, rfl, rfl⟩
def txf (k : Nat) : Nat := txN.getD k 0
theorem txf_le : ∀ k, k < 101 → txf k ≤ 126 := by decide +kernel
section SysC
variable {fm : Value} {l : Launch} {D : va_G} {Post : Option Int32 → AI → AR → Prop}
set_option maxRecDepth 20000 in
theorem y_text (hfm : fmOk fm) (kk : ∀ J : AI, CTx txf 101 J → (∀ a, a ≠ 1 → a ≠ 2 → J a = z0 a) → ZC (YS fm) l D zm_X11_init SH_o 171 [some (.ref 0), some (.int (nI 101))] [] J (zF_o 5) SH_o Post) : ∀ (d j : Nat) (I : AI), j + d = 101 → CTx txf j I → (∀ a, a ≠ 1 → a ≠ 2 → I a = z0 a) → ZC (YS fm) l D zm_X11_init SH_o 143 [some (.ref 0), some (.int (nI j))] [] I (zF_o 5) SH_o Post := by
  intro d
  induction d with
  | zero =>
    intro j I hj hX hI
    have hj2 : j = 101 := by omega
    subst hj2
    refine C_iload_n (pc := 143) dX11_init_143 rfl ?_
    refine C_ldc (pc := 144) dX11_init_144 rfl ?_
    obtain ⟨_, _, _, k1, rfl, rfl, rfl⟩ := y_length (fm := fm) (l := l) (D := D) (I := I) (F := zF_o 5) (sh := SH_o)
    refine C_callVo (pc := 146) (S := [_]) (As := []) (zYo_S fm) k1 dX11_init_146 ok_J0_length_8abf5 ml_X11_89 iv_J0_length_8abf5 ⟨by decide, by decide⟩ (zret_i _) rfl ⟨rfl, by decide⟩ ys_recv (Nat.le_of_ble_eq_true rfl) zNew.rf ?_
    refine C_icmp_geT (pc := 149) (tgt := 171) dX11_init_149 (by decide) (by decide) ?_
    exact kk I hX hI
  | succ d ih =>
    intro j I hj hX hI
    have hj2 : j < 101 := by omega
    refine C_iload_n (pc := 143) dX11_init_143 rfl ?_
    refine C_ldc (pc := 144) dX11_init_144 rfl ?_
    obtain ⟨_, _, _, k1, rfl, rfl, rfl⟩ := y_length (fm := fm) (l := l) (D := D) (I := I) (F := zF_o 5) (sh := SH_o)
    refine C_callVo (pc := 146) (S := [_]) (As := []) (zYo_S fm) k1 dX11_init_146 ok_J0_length_8abf5 ml_X11_89 iv_J0_length_8abf5 ⟨by decide, by decide⟩ (zret_i _) rfl ⟨rfl, by decide⟩ ys_recv (Nat.le_of_ble_eq_true rfl) zNew.rf ?_
    refine C_icmp_geF (pc := 149) (tgt := 171) dX11_init_149 (by decide) (fun z => absurd ((nI_leI (by omega) (by omega)).mp z) (by omega)) ?_
    refine C_aload_n (pc := 152) dX11_init_152 rfl ?_
    refine C_getr (pc := 153) 11 0 (b := 1) dX11_init_153 fl_X11_10 (n := 13) sh_0_o fr_11_0 F_0_0_o ?_
    refine C_ldc (pc := 156) dX11_init_156 rfl ?_
    refine C_iload_n (pc := 158) dX11_init_158 rfl ?_
    obtain ⟨_, _, _, k2, rfl, rfl, rfl⟩ := y_charAt (fm := fm) (l := l) (D := D) (I := I) (F := zF_o 5) (sh := SH_o) hfm hj2
    refine C_callVo (pc := 159) (S := [_]) (As := [_]) (zYo_S fm) k2 dX11_init_159 ok_J0_charAt_5068e ml_X11_95 iv_J0_charAt_5068e ⟨by decide, by decide⟩ (Or.inr ⟨.char, rfl, (txC_n j hj2).2⟩) rfl ⟨rfl, by decide⟩ ys_recv (Nat.le_of_ble_eq_true rfl) zNew.rf ?_
    refine C_top (y := nI (txf j)) (txC_n j hj2).1 ?_
    obtain ⟨_, J, _, k3, rfl, rfl, hJ⟩ := ZP_o.c (Y := YS fm) (c_append_o (l := l) (D := D) (tw := 5) (q := txf j) hX (by omega) (txf_le j hj2))
    refine C_callV (pc := 162) (S := []) (As := [_]) (zYo_S fm) k3 dX11_init_162 ok_X7_append ml_X11_99 iv_X7_append ⟨by decide, by decide⟩ zret_v rfl ⟨rfl, by decide⟩ sh_1_o ⟨by decide, rfl⟩ (Nat.le_of_ble_eq_true rfl) zNew.rf ?_
    refine C_iinc (pc := 165) (y := nI (j + 1)) dX11_init_165 rfl (nI_add j 1) (by decide) rfl ?_
    refine C_goto (pc := 168) (tgt := 143) dX11_init_168 (by decide) ?_
    refine ih (j + 1) J (by omega) ?_ ?_
    · rw [hJ]
      refine ⟨zu_s _ _ _ _, by omega, fun k hk => ?_⟩
      rw [zu_o _ _ (by decide)]
      by_cases e : k = j
      · subst e
        exact ⟨zu_s _ _ _ _, txf_le _ hj2⟩
      · rw [zu_n _ _ e]
        exact hX.2.2 k (by omega)
    · intro a h1 h2
      rw [hJ, zu_o _ _ h1, zu_o _ _ h2]
      exact hI a h1 h2
set_option maxRecDepth 20000 in
theorem y_sys (hfm : fmOk fm) : ZC (YS fm) l D zm_X11_init SH_o 0 (zent 2 [.ref 0]) [] z0 fN (SH.take 1) (fun v J G => v = none ∧ G = zF_o 36 ∧ CR 36 (sTk sD0) J ∧ ∀ a k, 109 ≤ a → J a k = 0) := by
  have h0 : fN = zFov fN fl_0 := rfl
  rw [h0, ← sh109]
  refine y_sys0 (zYo_S fm) ?_
  rw [sh109, zF_o5]
  refine C_iconst (pc := 141) (x := nI 0) dX11_init_141 (by decide) ?_
  refine C_istore_n (pc := 142) dX11_init_142 (by decide) rfl ?_
  refine y_text hfm (fun J hX hJ => ?_) 101 0 z0 rfl ⟨rfl, by decide, fun k hk => absurd hk (by omega)⟩ (fun _ _ _ => rfl)
  have hX2 : CTx (sT0 110) (sT0 109 1) J := hX
  refine C_aload_n (pc := 171) dX11_init_171 rfl ?_
  obtain ⟨_, K, _, k1, rfl, rfl, hD, hM, h74, h80, h93, hhi, h11⟩ := ZP_o.c (Y := YS fm) (c_lay_o (l := l) (D := D) hX2 t_par sP0_w)
  refine C_callV (pc := 172) (S := []) (As := []) (zYo_S fm) k1 dX11_init_172 ok_X11_lay ml_X11_103 iv_X11_lay ⟨by decide, by decide⟩ (zret_i _) rfl ⟨rfl, by decide⟩ sh_0_o ⟨by decide, rfl⟩ (Nat.le_of_ble_eq_true rfl) zNew.rf ?_
  refine C_pop (pc := 175) dX11_init_175 rfl ?_
  refine C_aload_n (pc := 176) dX11_init_176 rfl ?_
  obtain ⟨_, Q, _, k2, rfl, rfl, hQ⟩ := ZP_o.c (Y := YS fm) (c_wipe_o (l := l) (D := D) (tw := 36) (I := K) rfl)
  refine C_callV (pc := 177) (S := []) (As := []) (zYo_S fm) k2 dX11_init_177 ok_X11_wipe ml_X11_106 iv_X11_wipe ⟨by decide, by decide⟩ (zret_i _) rfl ⟨rfl, by decide⟩ sh_0_o ⟨by decide, rfl⟩ (Nat.le_of_ble_eq_true rfl) zNew.rf ?_
  refine C_pop (pc := 180) dX11_init_180 rfl ?_
  refine C_ret (pc := 181) dX11_init_181 ⟨rfl, rfl, ?_, fun a k ha => ?_⟩
  · have hq : ∀ a, a ≠ 1 → Q a = K a := fun a ha => by rw [hQ]; exact zu_o _ _ ha
    refine CR.first ?_ (fun a b ha hb => ?_) ?_ ?_ ?_ ?_
    · exact ⟨⟨by rw [hq _ (by decide)]; exact hD.1.1, by rw [hq _ (by decide)]; exact hD.1.2⟩, fun k hk => by rw [hq _ (by decide), hq _ (by decide)]; exact hD.2.1 k hk, fun a b ha hb => by rw [hq _ (by omega)]; exact hD.2.2.1 a b ha hb, hD.2.2.2.1.eq (hq _ (by decide)) (hq _ (by decide)) (hq _ (by decide)) (hq _ (by decide)), hD.2.2.2.2.1.eq (hq _ (by decide)) (hq _ (by decide)) (hq _ (by decide)) (hq _ (by decide)) (hq _ (by decide)), by rw [hq 36 (by decide)]; exact hD.2.2.2.2.2⟩
    · rw [hq _ (by omega)]; exact hM a b ha hb
    · rw [hq 74 (by decide)]; exact h74
    · rw [hq 80 (by decide)]; exact h80
    · rw [hq 93 (by decide)]; exact h93
    · rw [hQ]; exact zu_s _ _ _ _
  · rw [hQ, zu_o _ _ (by omega), hhi a ha, hJ a (by omega) (by omega)]
    rfl
end SysC
