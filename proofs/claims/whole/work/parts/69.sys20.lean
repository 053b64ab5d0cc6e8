set_option maxRecDepth 20000 in
theorem c_lay11_5 {l : Launch} {D : va_G} {I : AI} {s : Nat → Nat → Nat} (hC : CR 5 s I) (hR : RInv s)  : ZP l D zm_X11_lay 0 (zent 2 [.ref 0]) [] I (zF 5) (fun v J G => v = some (aLay s) ∧ zHg I J ∧ ((aLay s = -2 ∧ G = zF 5 ∧ CR 5 s J) ∨ ∃ s3 f3, zPar 201 (sIni s) true 0 = .inr s3 ∧ DrF s3 f3 ∧ Scr zDr s s3 ∧ ¬ s3 116 1 = 0 ∧ aLay s = nI (s3 111 1) ∧ G = zF 36 ∧ CR 36 (sTk s3) J)) := by
  show ZP _ _ _ _ [some _, none] _ _ _ _
  refine P_aload_n (pc := 0) dX11_lay_0 rfl ?_
  refine P_getr (pc := 1) 11 1 dX11_lay_1 fl_X11_19 sh_0 fr_11_1 F_0_1 ?_
  refine P_aload_n (pc := 4) dX11_lay_4 rfl ?_
  refine P_getr (pc := 5) 11 3 dX11_lay_5 fl_X11_30 sh_0 fr_11_3 F_0_3 ?_
  refine P_aload_n (pc := 8) dX11_lay_8 rfl ?_
  refine P_getr (pc := 9) 11 0 dX11_lay_9 fl_X11_10 sh_0 fr_11_0 F_0_0 ?_
  obtain ⟨_, Q, _, kq, rfl, rfl, hQ1, hQ2⟩ := c_readInto_36 (l := l) (D := D) (tw := 5) (I := I) (s0 := s) hC.tx
  have hSQ : zSc 5 I Q := fun a ha => hQ1 a (by omega) (by omega) (by omega)
  refine P_callV (pc := 12) (S := []) (As := [_, _]) kq dX11_lay_12 ok_X2_readInto ml_X11_112 iv_X2_readInto ⟨by decide, by decide⟩ (zret_i _) rfl ⟨rfl, by decide⟩ sh_3 ⟨by decide, rfl⟩ (Nat.le_of_ble_eq_true rfl) ?_
  rcases hz : zPar 201 (sIni s) true 0 with p | s3
  · have hp := zPar_lt (n := 201) (s := sIni s) hC.tx.2.1 (sIni_ok s) hz
    have hfa : aFault s = nI p := by unfold aFault; rw [hz]
    have hla : aLay s = -2 := by unfold aLay; rw [hz]
    rw [hfa]
    refine P_bipush (pc := 15) (x := (-4)) dX11_lay_15 (by decide) ?_
    refine P_icmp_neT (pc := 17) (tgt := 33) dX11_lay_17 (by decide) (zne4 (by omega)) ?_
    refine P_bipush (pc := 33) (x := (-2)) dX11_lay_33 (by decide) ?_
    exact P_iret (pc := 35) dX11_lay_35 (⟨by rw [hla], hSQ.hg (Or.inl rfl), Or.inl ⟨hla, rfl, hC.sc hSQ (Or.inl rfl)⟩⟩)
  · obtain ⟨hD, f3, hO⟩ := hQ2 s3 hz
    have hscr : Scr zDr s s3 := (sIni_scr s).trans (zPar_scr (sIni_ok s) hz).1
    have hfa : aFault s = -4 := by unfold aFault; rw [hz]
    have hw4 := hO.1.2.2.2.2
    rw [hfa]
    refine P_bipush (pc := 15) (x := (-4)) dX11_lay_15 (by decide) ?_
    refine P_icmp_neF (pc := 17) (tgt := 33) dX11_lay_17 (by decide) (by decide) ?_
    refine P_aload_n (pc := 20) dX11_lay_20 rfl ?_
    refine P_getr (pc := 21) 11 3 dX11_lay_21 fl_X11_30 sh_0 fr_11_3 F_0_3 ?_
    refine P_getr (pc := 24) 8 2 dX11_lay_24 fl_X11_116 sh_36 fr_8_2 F_36_2 ?_
    refine P_geti (pc := 27) 10 4 (x := nI (s3 116 1)) dX11_lay_27 fl_X11_120 sh_62 fi_10_4 (hD.2.2.2.2.1.1) ?_
    refine P_if_neN (pc := 30) (tgt := 36) dX11_lay_30 (by decide) (by omega) (fun h30 => ?_) (fun h30 => ?_)
    · have hla : aLay s = nI (s3 111 1) := by unfold aLay; rw [hz]; exact if_neg (by omega)
      refine P_aload_n (pc := 36) dX11_lay_36 rfl ?_
      refine P_getr (pc := 37) 11 2 dX11_lay_37 fl_X11_26 sh_0 fr_11_2 F_0_2 ?_
      refine P_astore_n (pc := 40) dX11_lay_40 (by decide) rfl ?_
      refine P_aload_n (pc := 41) dX11_lay_41 rfl ?_
      refine P_aload_n (pc := 42) dX11_lay_42 rfl ?_
      refine P_getr (pc := 43) 11 3 dX11_lay_43 fl_X11_30 sh_0 fr_11_3 F_0_3 ?_
      refine P_putr (pc := 46) 11 2 dX11_lay_46 fl_X11_26 sh_0 fr_11_2 (by decide) (by decide) (fun q => rfl) (fun q => rfl) ?_
      refine P_aload_n (pc := 49) dX11_lay_49 rfl ?_
      refine P_aload_n (pc := 50) dX11_lay_50 rfl ?_
      refine P_putr (pc := 51) 11 3 dX11_lay_51 fl_X11_30 sh_0 fr_11_3 (by decide) (by decide) (fun q => rfl) (fun q => rfl) ?_
      have hsw : zuR (zuR (zF 5) 0 2 (some (41 - 5))) 0 3 (some 5) = zF 36 := sw_t (t := 5)
      rw [hsw]
      refine P_aload_n (pc := 54) dX11_lay_54 rfl ?_
      refine P_getr (pc := 55) 11 2 dX11_lay_55 fl_X11_26 sh_0 fr_11_2 F_0_2 ?_
      refine P_getr (pc := 58) 8 0 dX11_lay_58 fl_X11_125 sh_36 fr_8_0 F_36_0 ?_
      refine P_aload_n (pc := 61) dX11_lay_61 rfl ?_
      refine P_getr (pc := 62) 11 2 dX11_lay_62 fl_X11_26 sh_0 fr_11_2 F_0_2 ?_
      refine P_getr (pc := 65) 8 0 dX11_lay_65 fl_X11_125 sh_36 fr_8_0 F_36_0 ?_
      refine P_getr (pc := 68) 6 5 dX11_lay_68 fl_X11_129 sh_37 fr_6_5 F_37_5 ?_
      refine P_iconst (pc := 71) (x := (-1)) dX11_lay_71 (by decide) ?_
      obtain ⟨_, K, _, km, rfl, rfl, hK1, hK2⟩ := c_measure_36_49 (l := l) (D := D) (tw := 36) (I := Q) (hD.sr hO) (w := none) (fun q e => by cases e)
      refine P_callV (pc := 72) (S := []) (As := [_, _]) km dX11_lay_72 ok_X6_measure ml_X11_134 iv_X6_measure ⟨by decide, by decide⟩ zret_v rfl ⟨rfl, by decide⟩ sh_37 ⟨by decide, rfl⟩ (Nat.le_of_ble_eq_true rfl) ?_
      refine P_aload_n (pc := 75) dX11_lay_75 rfl ?_
      refine P_getr (pc := 76) 11 6 dX11_lay_76 fl_X11_50 sh_0 fr_11_6 F_0_6 ?_
      obtain ⟨_, K2, _, kc, rfl, rfl, hZ⟩ := c_chclear (l := l) (D := D) (tw := 36) (I := K)
      have hZo : ∀ a, a ≠ 74 → K2 a = K a := fun a ha => by rw [hZ]; exact (zu_o _ _ ha).trans (zu_o _ _ ha)
      refine P_callV (pc := 79) (S := []) (As := []) kc dX11_lay_79 ok_X0_clear ml_X11_138 iv_X0_clear ⟨by decide, by decide⟩ zret_v rfl ⟨rfl, by decide⟩ sh_74 ⟨by decide, rfl⟩ (Nat.le_of_ble_eq_true rfl) ?_
      refine P_aload_n (pc := 82) dX11_lay_82 rfl ?_
      refine P_getr (pc := 83) 11 7 dX11_lay_83 fl_X11_57 sh_0 fr_11_7 F_0_7 ?_
      refine P_iconst (pc := 86) (x := nI 0) dX11_lay_86 (by decide) ?_
      refine P_puti (pc := 87) 3 2 dX11_lay_87 fl_X11_141 sh_80 fp_3_2 rfl rfl ?_
      refine P_aload_n (pc := 90) dX11_lay_90 rfl ?_
      refine P_getr (pc := 91) 11 8 dX11_lay_91 fl_X11_64 sh_0 fr_11_8 F_0_8 ?_
      refine P_iconst (pc := 94) (x := nI 0) dX11_lay_94 (by decide) ?_
      refine P_puti (pc := 95) 4 3 dX11_lay_95 fl_X11_142 sh_93 fp_4_3 rfl rfl ?_
      refine P_aload_n (pc := 98) dX11_lay_98 rfl ?_
      refine P_getr (pc := 99) 11 2 dX11_lay_99 fl_X11_26 sh_0 fr_11_2 F_0_2 ?_
      refine P_getr (pc := 102) 8 0 dX11_lay_102 fl_X11_125 sh_36 fr_8_0 F_36_0 ?_
      refine P_geti (pc := 105) 6 0 (x := nI (s3 111 1)) dX11_lay_105 fl_X11_143 sh_37 fi_6_0 ((congrFun ((zu_o _ _ (by decide)).trans ((zu_o _ _ (by decide)).trans ((hZo 37 (by decide)).trans (hK1 37 (by decide))))) 0).trans hD.1.1) ?_
      refine P_iret (pc := 108) dX11_lay_108 ?_
      have hfr : ∀ a, a ≠ 74 → a ≠ 80 → a ≠ 93 → (a < 50 ∨ 58 ≤ a) → zu (zu K2 80 2 (nI 0)) 93 3 (nI 0) a = Q a := fun a h1 h2 h3 h4 => (zu_o _ _ h3).trans ((zu_o _ _ h2).trans ((hZo a h1).trans (hK1 a (by omega))))
      have hDf : DrC s3 (zu (zu K2 80 2 (nI 0)) 93 3 (nI 0)) 36 := ⟨⟨by rw [hfr _ (by decide) (by decide) (by decide) (by decide)]; exact hD.1.1, by rw [hfr _ (by decide) (by decide) (by decide) (by decide)]; exact hD.1.2⟩, fun k hk => by rw [hfr _ (by decide) (by decide) (by decide) (by decide), hfr _ (by decide) (by decide) (by decide) (by decide)]; exact hD.2.1 k hk, fun a b ha hb => by rw [hfr _ (by omega) (by omega) (by omega) (by omega)]; exact hD.2.2.1 a b ha hb, hD.2.2.2.1.eq (hfr _ (by decide) (by decide) (by decide) (by decide)) (hfr _ (by decide) (by decide) (by decide) (by decide)) (hfr _ (by decide) (by decide) (by decide) (by decide)) (hfr _ (by decide) (by decide) (by decide) (by decide)), hD.2.2.2.2.1.eq (hfr _ (by decide) (by decide) (by decide) (by decide)) (hfr _ (by decide) (by decide) (by decide) (by decide)) (hfr _ (by decide) (by decide) (by decide) (by decide)) (hfr _ (by decide) (by decide) (by decide) (by decide)) (hfr _ (by decide) (by decide) (by decide) (by decide)), by rw [hfr 36 (by decide) (by decide) (by decide) (by decide)]; exact hD.2.2.2.2.2⟩
      have e110 : s3 110 = s 110 := funext fun k => hscr 110 k rfl
      have e1 : s3 109 1 = s 109 1 := hscr 109 1 rfl
      have hXf : CTx (s3 110) (s3 109 1) (zu (zu K2 80 2 (nI 0)) 93 3 (nI 0)) := by
        rw [e110, e1]
        exact (hC.sc hSQ (Or.inl rfl)).tx.eq (hfr 1 (by decide) (by decide) (by decide) (by decide)) (hfr 2 (by decide) (by decide) (by decide) (by decide))
      have hMf : zRw 50 (fun a b => zFar (nrD s3) (8 * a + b)) (zu (zu K2 80 2 (nI 0)) 93 3 (nI 0)) := fun a b ha hb => by
        rw [zu_o _ _ (by omega), zu_o _ _ (by omega), hZo _ (by omega)]
        exact hK2 a b ha hb
      have h74 : (zu (zu K2 80 2 (nI 0)) 93 3 (nI 0)) 74 5 = nI 0 ∧ (zu (zu K2 80 2 (nI 0)) 93 3 (nI 0)) 74 6 = nI 0 := by
        have e9 : (zu (zu K2 80 2 (nI 0)) 93 3 (nI 0)) 74 = K2 74 := (zu_o _ _ (by decide)).trans (zu_o _ _ (by decide))
        rw [e9, hZ]
        exact ⟨rfl, rfl⟩
      have hfin := CR.lay hXf hDf hO hMf h74 rfl rfl (fun k => by rw [hscr 124 k rfl]; exact hR.1.1.1.2 k)
      refine ⟨by rw [hla], fun a ha => (hfr a (by omega) (by omega) (by omega) (by omega)).trans (hSQ a (by omega)), Or.inr ⟨s3, f3, rfl, hO, hscr, by omega, hla, rfl, hfin⟩⟩
    · refine P_bipush (pc := 33) (x := (-2)) dX11_lay_33 (by decide) ?_
      exact P_iret (pc := 35) dX11_lay_35 (⟨by unfold aLay; rw [hz]; exact congrArg some (if_pos (by omega)).symm, hSQ.hg (Or.inl rfl), Or.inl ⟨by unfold aLay; rw [hz]; exact if_pos (by omega), rfl, hC.sc hSQ (Or.inl rfl)⟩⟩)
set_option maxRecDepth 20000 in
theorem c_lay11_36 {l : Launch} {D : va_G} {I : AI} {s : Nat → Nat → Nat} (hC : CR 36 s I) (hR : RInv s)  : ZP l D zm_X11_lay 0 (zent 2 [.ref 0]) [] I (zF 36) (fun v J G => v = some (aLay s) ∧ zHg I J ∧ ((aLay s = -2 ∧ G = zF 36 ∧ CR 36 s J) ∨ ∃ s3 f3, zPar 201 (sIni s) true 0 = .inr s3 ∧ DrF s3 f3 ∧ Scr zDr s s3 ∧ ¬ s3 116 1 = 0 ∧ aLay s = nI (s3 111 1) ∧ G = zF 5 ∧ CR 5 (sTk s3) J)) := by
  show ZP _ _ _ _ [some _, none] _ _ _ _
  refine P_aload_n (pc := 0) dX11_lay_0 rfl ?_
  refine P_getr (pc := 1) 11 1 dX11_lay_1 fl_X11_19 sh_0 fr_11_1 F_0_1 ?_
  refine P_aload_n (pc := 4) dX11_lay_4 rfl ?_
  refine P_getr (pc := 5) 11 3 dX11_lay_5 fl_X11_30 sh_0 fr_11_3 F_0_3 ?_
  refine P_aload_n (pc := 8) dX11_lay_8 rfl ?_
  refine P_getr (pc := 9) 11 0 dX11_lay_9 fl_X11_10 sh_0 fr_11_0 F_0_0 ?_
  obtain ⟨_, Q, _, kq, rfl, rfl, hQ1, hQ2⟩ := c_readInto_5 (l := l) (D := D) (tw := 36) (I := I) (s0 := s) hC.tx
  have hSQ : zSc 36 I Q := fun a ha => hQ1 a (by omega) (by omega) (by omega)
  refine P_callV (pc := 12) (S := []) (As := [_, _]) kq dX11_lay_12 ok_X2_readInto ml_X11_112 iv_X2_readInto ⟨by decide, by decide⟩ (zret_i _) rfl ⟨rfl, by decide⟩ sh_3 ⟨by decide, rfl⟩ (Nat.le_of_ble_eq_true rfl) ?_
  rcases hz : zPar 201 (sIni s) true 0 with p | s3
  · have hp := zPar_lt (n := 201) (s := sIni s) hC.tx.2.1 (sIni_ok s) hz
    have hfa : aFault s = nI p := by unfold aFault; rw [hz]
    have hla : aLay s = -2 := by unfold aLay; rw [hz]
    rw [hfa]
    refine P_bipush (pc := 15) (x := (-4)) dX11_lay_15 (by decide) ?_
    refine P_icmp_neT (pc := 17) (tgt := 33) dX11_lay_17 (by decide) (zne4 (by omega)) ?_
    refine P_bipush (pc := 33) (x := (-2)) dX11_lay_33 (by decide) ?_
    exact P_iret (pc := 35) dX11_lay_35 (⟨by rw [hla], hSQ.hg (Or.inr rfl), Or.inl ⟨hla, rfl, hC.sc hSQ (Or.inr rfl)⟩⟩)
  · obtain ⟨hD, f3, hO⟩ := hQ2 s3 hz
    have hscr : Scr zDr s s3 := (sIni_scr s).trans (zPar_scr (sIni_ok s) hz).1
    have hfa : aFault s = -4 := by unfold aFault; rw [hz]
    have hw4 := hO.1.2.2.2.2
    rw [hfa]
    refine P_bipush (pc := 15) (x := (-4)) dX11_lay_15 (by decide) ?_
    refine P_icmp_neF (pc := 17) (tgt := 33) dX11_lay_17 (by decide) (by decide) ?_
    refine P_aload_n (pc := 20) dX11_lay_20 rfl ?_
    refine P_getr (pc := 21) 11 3 dX11_lay_21 fl_X11_30 sh_0 fr_11_3 F_0_3 ?_
    refine P_getr (pc := 24) 8 2 dX11_lay_24 fl_X11_116 sh_5 fr_8_2 F_5_2 ?_
    refine P_geti (pc := 27) 10 4 (x := nI (s3 116 1)) dX11_lay_27 fl_X11_120 sh_31 fi_10_4 (hD.2.2.2.2.1.1) ?_
    refine P_if_neN (pc := 30) (tgt := 36) dX11_lay_30 (by decide) (by omega) (fun h30 => ?_) (fun h30 => ?_)
    · have hla : aLay s = nI (s3 111 1) := by unfold aLay; rw [hz]; exact if_neg (by omega)
      refine P_aload_n (pc := 36) dX11_lay_36 rfl ?_
      refine P_getr (pc := 37) 11 2 dX11_lay_37 fl_X11_26 sh_0 fr_11_2 F_0_2 ?_
      refine P_astore_n (pc := 40) dX11_lay_40 (by decide) rfl ?_
      refine P_aload_n (pc := 41) dX11_lay_41 rfl ?_
      refine P_aload_n (pc := 42) dX11_lay_42 rfl ?_
      refine P_getr (pc := 43) 11 3 dX11_lay_43 fl_X11_30 sh_0 fr_11_3 F_0_3 ?_
      refine P_putr (pc := 46) 11 2 dX11_lay_46 fl_X11_26 sh_0 fr_11_2 (by decide) (by decide) (fun q => rfl) (fun q => rfl) ?_
      refine P_aload_n (pc := 49) dX11_lay_49 rfl ?_
      refine P_aload_n (pc := 50) dX11_lay_50 rfl ?_
      refine P_putr (pc := 51) 11 3 dX11_lay_51 fl_X11_30 sh_0 fr_11_3 (by decide) (by decide) (fun q => rfl) (fun q => rfl) ?_
      have hsw : zuR (zuR (zF 36) 0 2 (some (41 - 36))) 0 3 (some 36) = zF 5 := sw_t (t := 36)
      rw [hsw]
      refine P_aload_n (pc := 54) dX11_lay_54 rfl ?_
      refine P_getr (pc := 55) 11 2 dX11_lay_55 fl_X11_26 sh_0 fr_11_2 F_0_2 ?_
      refine P_getr (pc := 58) 8 0 dX11_lay_58 fl_X11_125 sh_5 fr_8_0 F_5_0 ?_
      refine P_aload_n (pc := 61) dX11_lay_61 rfl ?_
      refine P_getr (pc := 62) 11 2 dX11_lay_62 fl_X11_26 sh_0 fr_11_2 F_0_2 ?_
      refine P_getr (pc := 65) 8 0 dX11_lay_65 fl_X11_125 sh_5 fr_8_0 F_5_0 ?_
      refine P_getr (pc := 68) 6 5 dX11_lay_68 fl_X11_129 sh_6 fr_6_5 F_6_5 ?_
      refine P_iconst (pc := 71) (x := (-1)) dX11_lay_71 (by decide) ?_
      obtain ⟨_, K, _, km, rfl, rfl, hK1, hK2⟩ := c_measure_5_18 (l := l) (D := D) (tw := 5) (I := Q) (hD.sr hO) (w := none) (fun q e => by cases e)
      refine P_callV (pc := 72) (S := []) (As := [_, _]) km dX11_lay_72 ok_X6_measure ml_X11_134 iv_X6_measure ⟨by decide, by decide⟩ zret_v rfl ⟨rfl, by decide⟩ sh_6 ⟨by decide, rfl⟩ (Nat.le_of_ble_eq_true rfl) ?_
      refine P_aload_n (pc := 75) dX11_lay_75 rfl ?_
      refine P_getr (pc := 76) 11 6 dX11_lay_76 fl_X11_50 sh_0 fr_11_6 F_0_6 ?_
      obtain ⟨_, K2, _, kc, rfl, rfl, hZ⟩ := c_chclear (l := l) (D := D) (tw := 5) (I := K)
      have hZo : ∀ a, a ≠ 74 → K2 a = K a := fun a ha => by rw [hZ]; exact (zu_o _ _ ha).trans (zu_o _ _ ha)
      refine P_callV (pc := 79) (S := []) (As := []) kc dX11_lay_79 ok_X0_clear ml_X11_138 iv_X0_clear ⟨by decide, by decide⟩ zret_v rfl ⟨rfl, by decide⟩ sh_74 ⟨by decide, rfl⟩ (Nat.le_of_ble_eq_true rfl) ?_
      refine P_aload_n (pc := 82) dX11_lay_82 rfl ?_
      refine P_getr (pc := 83) 11 7 dX11_lay_83 fl_X11_57 sh_0 fr_11_7 F_0_7 ?_
      refine P_iconst (pc := 86) (x := nI 0) dX11_lay_86 (by decide) ?_
      refine P_puti (pc := 87) 3 2 dX11_lay_87 fl_X11_141 sh_80 fp_3_2 rfl rfl ?_
      refine P_aload_n (pc := 90) dX11_lay_90 rfl ?_
      refine P_getr (pc := 91) 11 8 dX11_lay_91 fl_X11_64 sh_0 fr_11_8 F_0_8 ?_
      refine P_iconst (pc := 94) (x := nI 0) dX11_lay_94 (by decide) ?_
      refine P_puti (pc := 95) 4 3 dX11_lay_95 fl_X11_142 sh_93 fp_4_3 rfl rfl ?_
      refine P_aload_n (pc := 98) dX11_lay_98 rfl ?_
      refine P_getr (pc := 99) 11 2 dX11_lay_99 fl_X11_26 sh_0 fr_11_2 F_0_2 ?_
      refine P_getr (pc := 102) 8 0 dX11_lay_102 fl_X11_125 sh_5 fr_8_0 F_5_0 ?_
      refine P_geti (pc := 105) 6 0 (x := nI (s3 111 1)) dX11_lay_105 fl_X11_143 sh_6 fi_6_0 ((congrFun ((zu_o _ _ (by decide)).trans ((zu_o _ _ (by decide)).trans ((hZo 6 (by decide)).trans (hK1 6 (by decide))))) 0).trans hD.1.1) ?_
      refine P_iret (pc := 108) dX11_lay_108 ?_
      have hfr : ∀ a, a ≠ 74 → a ≠ 80 → a ≠ 93 → (a < 19 ∨ 27 ≤ a) → zu (zu K2 80 2 (nI 0)) 93 3 (nI 0) a = Q a := fun a h1 h2 h3 h4 => (zu_o _ _ h3).trans ((zu_o _ _ h2).trans ((hZo a h1).trans (hK1 a (by omega))))
      have hDf : DrC s3 (zu (zu K2 80 2 (nI 0)) 93 3 (nI 0)) 5 := ⟨⟨by rw [hfr _ (by decide) (by decide) (by decide) (by decide)]; exact hD.1.1, by rw [hfr _ (by decide) (by decide) (by decide) (by decide)]; exact hD.1.2⟩, fun k hk => by rw [hfr _ (by decide) (by decide) (by decide) (by decide), hfr _ (by decide) (by decide) (by decide) (by decide)]; exact hD.2.1 k hk, fun a b ha hb => by rw [hfr _ (by omega) (by omega) (by omega) (by omega)]; exact hD.2.2.1 a b ha hb, hD.2.2.2.1.eq (hfr _ (by decide) (by decide) (by decide) (by decide)) (hfr _ (by decide) (by decide) (by decide) (by decide)) (hfr _ (by decide) (by decide) (by decide) (by decide)) (hfr _ (by decide) (by decide) (by decide) (by decide)), hD.2.2.2.2.1.eq (hfr _ (by decide) (by decide) (by decide) (by decide)) (hfr _ (by decide) (by decide) (by decide) (by decide)) (hfr _ (by decide) (by decide) (by decide) (by decide)) (hfr _ (by decide) (by decide) (by decide) (by decide)) (hfr _ (by decide) (by decide) (by decide) (by decide)), by rw [hfr 5 (by decide) (by decide) (by decide) (by decide)]; exact hD.2.2.2.2.2⟩
      have e110 : s3 110 = s 110 := funext fun k => hscr 110 k rfl
      have e1 : s3 109 1 = s 109 1 := hscr 109 1 rfl
      have hXf : CTx (s3 110) (s3 109 1) (zu (zu K2 80 2 (nI 0)) 93 3 (nI 0)) := by
        rw [e110, e1]
        exact (hC.sc hSQ (Or.inr rfl)).tx.eq (hfr 1 (by decide) (by decide) (by decide) (by decide)) (hfr 2 (by decide) (by decide) (by decide) (by decide))
      have hMf : zRw 19 (fun a b => zFar (nrD s3) (8 * a + b)) (zu (zu K2 80 2 (nI 0)) 93 3 (nI 0)) := fun a b ha hb => by
        rw [zu_o _ _ (by omega), zu_o _ _ (by omega), hZo _ (by omega)]
        exact hK2 a b ha hb
      have h74 : (zu (zu K2 80 2 (nI 0)) 93 3 (nI 0)) 74 5 = nI 0 ∧ (zu (zu K2 80 2 (nI 0)) 93 3 (nI 0)) 74 6 = nI 0 := by
        have e9 : (zu (zu K2 80 2 (nI 0)) 93 3 (nI 0)) 74 = K2 74 := (zu_o _ _ (by decide)).trans (zu_o _ _ (by decide))
        rw [e9, hZ]
        exact ⟨rfl, rfl⟩
      have hfin := CR.lay hXf hDf hO hMf h74 rfl rfl (fun k => by rw [hscr 124 k rfl]; exact hR.1.1.1.2 k)
      refine ⟨by rw [hla], fun a ha => (hfr a (by omega) (by omega) (by omega) (by omega)).trans (hSQ a (by omega)), Or.inr ⟨s3, f3, rfl, hO, hscr, by omega, hla, rfl, hfin⟩⟩
    · refine P_bipush (pc := 33) (x := (-2)) dX11_lay_33 (by decide) ?_
      exact P_iret (pc := 35) dX11_lay_35 (⟨by unfold aLay; rw [hz]; exact congrArg some (if_pos (by omega)).symm, hSQ.hg (Or.inr rfl), Or.inl ⟨by unfold aLay; rw [hz]; exact if_pos (by omega), rfl, hC.sc hSQ (Or.inr rfl)⟩⟩)
