set_option maxRecDepth 20000 in
theorem c_best11_5 {l : Launch} {D : va_G} {I : AI} {s : Nat → Nat → Nat} (hC : CR 5 s I) (hR : RInv s) {x y : Int32} : ZP l D zm_X11_best 0 (zent 5 [.ref 0, .int x, .int y]) [] I (zF 5) (fun v J G => v = some (aBest s x y) ∧ G = zF 5 ∧ zSc 5 I J) := by
  have hB1 := hC.st.2.1
  have hB2 := hC.wk.2.1
  have hB3 := hC.sg.2.1
  show ZP _ _ _ _ [some _, some _, some _, none, none] _ _ _ _
  refine P_aload_n (pc := 0) dX11_best_0 rfl ?_
  refine P_iload_n (pc := 1) dX11_best_1 rfl ?_
  obtain ⟨_, _, _, kw1, rfl, rfl, rfl⟩ := c_isWalker11_5 (l := l) (D := D) (I := I) (x := x) (n := s 116 0) hC.wk.1 (by omega)
  refine P_callV (pc := 2) (S := []) (As := [_]) kw1 dX11_best_2 ok_X11_isWalker ml_X11_167 iv_X11_isWalker ⟨by decide, by decide⟩ (zret_b (zix x (s 116 0))) rfl ⟨rfl, by decide⟩ sh_0 ⟨by decide, rfl⟩ (Nat.le_of_ble_eq_true rfl) ?_
  refine P_if_eqB (pc := 5) (tgt := 16) dX11_best_5 (by decide) (fun h5 => ?_) (fun h5 => ?_)
  · refine P_iconst (pc := 16) (x := (-1)) dX11_best_16 (by decide) ?_
    exact P_iret (pc := 17) dX11_best_17 (⟨by unfold aBest; rw [if_neg (by intro z; simp_all)], rfl, zSc.rf⟩)
  · obtain ⟨i, hl_i, rfl⟩ := zix_t h5 (by omega)
    refine P_iload_n (pc := 8) dX11_best_8 rfl ?_
    refine P_iconst (pc := 9) (x := nI 2) dX11_best_9 (by decide) ?_
    obtain ⟨_, _, _, kw2, rfl, rfl, rfl⟩ := c_isWithin (l := l) (D := D) (tw := 5) (I := I) (x := y) (n := 2) (by omega)
    refine P_callS (pc := 10) (S := []) (As := [_, _]) kw2 dX11_best_10 ok_X11_isWithin ml_X11_180 is_X11_isWithin ⟨by decide, by decide⟩ (zret_b (zix y 2)) rfl ⟨rfl, by decide⟩ (Nat.le_of_ble_eq_true rfl) ?_
    refine P_if_neB (pc := 13) (tgt := 18) dX11_best_13 (by decide) (fun h13 => ?_) (fun h13 => ?_)
    · obtain ⟨j, hl_j, rfl⟩ := zix_t h13 (by omega)
      refine P_aload_n (pc := 18) dX11_best_18 rfl ?_
      refine P_getr (pc := 19) 11 2 dX11_best_19 fl_X11_26 sh_0 fr_11_2 F_0_2 ?_
      refine P_getr (pc := 22) 8 2 dX11_best_22 fl_X11_116 sh_5 fr_8_2 F_5_2 ?_
      refine P_astore_n (pc := 25) dX11_best_25 (by decide) rfl ?_
      refine P_aload_n (pc := 26) dX11_best_26 rfl ?_
      refine P_getr (pc := 27) 11 9 dX11_best_27 fl_X11_71 sh_0 fr_11_9 F_0_9 ?_
      obtain ⟨_, K0, _, kc, rfl, rfl, hk1, hk2⟩ := c_pclear (l := l) (D := D) (tw := 5) (I := I)
      refine P_callV (pc := 30) (S := []) (As := []) kc dX11_best_30 ok_X1_clear ml_X11_235 iv_X1_clear ⟨by decide, by decide⟩ zret_v rfl ⟨rfl, by decide⟩ sh_97 ⟨by decide, rfl⟩ (Nat.le_of_ble_eq_true rfl) ?_
      refine P_iconst (pc := 33) (x := nI 0) dX11_best_33 (by decide) ?_
      refine P_istore (pc := 34) dX11_best_34 (by decide) rfl ?_
      have loop : ∀ (d : Nat) (c : Nat) (J : AI), s 111 0 - c < d → c ≤ s 111 0 → zSc 5 I J → zPic J (zPkL (fun c => nI (zTrS s 0 (s 117 i) (s 118 i) (s 119 i) c).2.2.2.1) c) → ZP l D zm_X11_best 36 [some (.ref 0), some (.int (nI i)), some (.int (nI j)), some (.ref 31), some (.int (nI c))] [] J (zF 5) (fun v J G => v = some (aBest s (nI i) (nI j)) ∧ G = zF 5 ∧ zSc 5 I J) := by
        intro d
        induction d with
        | zero =>
          intro c J hd
          exact absurd hd (by omega)
        | succ d ih =>
          intro c J hd hc hF hP
          have hCJ := hC.sc hF (Or.inl rfl)
          have hb := hC.wk.2.2 i (by omega)
          refine P_iload (pc := 36) dX11_best_36 rfl ?_
          refine P_aload_n (pc := 38) dX11_best_38 rfl ?_
          refine P_getr (pc := 39) 11 2 dX11_best_39 fl_X11_26 sh_0 fr_11_2 F_0_2 ?_
          refine P_getr (pc := 42) 8 0 dX11_best_42 fl_X11_125 sh_5 fr_8_0 F_5_0 ?_
          refine P_geti (pc := 45) 6 0 (x := nI (s 111 0)) dX11_best_45 fl_X11_143 sh_6 fi_6_0 (hCJ.st.1) ?_
          refine P_icmp_geN (pc := 48) (tgt := 111) dX11_best_48 (by decide) (by omega) (by omega) (fun h48 => ?_) (fun h48 => ?_)
          · refine P_aload_n (pc := 111) dX11_best_111 rfl ?_
            refine P_getr (pc := 112) 11 9 dX11_best_112 fl_X11_71 sh_0 fr_11_9 F_0_9 ?_
            refine P_iload_n (pc := 115) dX11_best_115 rfl ?_
            obtain ⟨_, _, _, ka, rfl, rfl, rfl⟩ := c_answer (l := l) (D := D) (tw := 5) (I := J) (pk := zPkL (fun c => nI (zTrS s 0 (s 117 i) (s 118 i) (s 119 i) c).2.2.2.1) c) hP (x := j) (by omega)
            refine P_callV (pc := 116) (S := []) (As := [_]) ka dX11_best_116 ok_X1_answer ml_X11_247 iv_X1_answer ⟨by decide, by decide⟩ (zret_i _) rfl ⟨rfl, by decide⟩ sh_97 ⟨by decide, rfl⟩ (Nat.le_of_ble_eq_true rfl) ?_
            refine P_iret (pc := 119) dX11_best_119 ?_
            have hc2 : c = s 111 0 := by omega
            subst hc2
            have ha : aBest s (nI i) (nI j) = if j = 0 then zp1 (zBp s i) else zp2 (zBp s i) := by unfold aBest; rw [if_pos ⟨h5, h13⟩, nI_clamp (by omega), nI_clamp (by omega)]
            exact ⟨by rw [ha]; rfl, rfl, hF⟩
          · refine P_aload_n (pc := 51) dX11_best_51 rfl ?_
            refine P_getr (pc := 52) 11 4 dX11_best_52 fl_X11_36 sh_0 fr_11_4 F_0_4 ?_
            refine P_aload_n (pc := 55) dX11_best_55 rfl ?_
            refine P_getr (pc := 56) 11 2 dX11_best_56 fl_X11_26 sh_0 fr_11_2 F_0_2 ?_
            refine P_aload_n (pc := 59) dX11_best_59 rfl ?_
            refine P_getr (pc := 60) 11 2 dX11_best_60 fl_X11_26 sh_0 fr_11_2 F_0_2 ?_
            refine P_getr (pc := 63) 8 1 dX11_best_63 fl_X11_156 sh_5 fr_8_1 F_5_1 ?_
            refine P_aload_n (pc := 66) dX11_best_66 rfl ?_
            refine P_getr (pc := 67) 10 0 dX11_best_67 fl_X11_170 sh_31 fr_10_0 F_31_0 ?_
            refine P_iload_n (pc := 70) dX11_best_70 rfl ?_
            refine P_iald (pc := 71) (i) (x := nI (s 117 i)) dX11_best_71 sh_32 rfl (by omega) (by decide) ((hCJ.wk.2.2 _ (by omega)).1.1) ?_
            refine P_aload_n (pc := 72) dX11_best_72 rfl ?_
            refine P_getr (pc := 73) 10 1 dX11_best_73 fl_X11_173 sh_31 fr_10_1 F_31_1 ?_
            refine P_iload_n (pc := 76) dX11_best_76 rfl ?_
            refine P_iald (pc := 77) (i) (x := nI (s 118 i)) dX11_best_77 sh_33 rfl (by omega) (by decide) ((hCJ.wk.2.2 _ (by omega)).1.2.1) ?_
            refine P_aload_n (pc := 78) dX11_best_78 rfl ?_
            refine P_getr (pc := 79) 10 2 dX11_best_79 fl_X11_176 sh_31 fr_10_2 F_31_2 ?_
            refine P_iload_n (pc := 82) dX11_best_82 rfl ?_
            refine P_iald (pc := 83) (i) (x := nI (s 119 i)) dX11_best_83 sh_34 rfl (by omega) (by decide) ((hCJ.wk.2.2 _ (by omega)).1.2.2.1) ?_
            refine P_iload (pc := 84) dX11_best_84 rfl ?_
            obtain ⟨_, K, _, km, rfl, rfl, hK0⟩ := c_make_5_27 (l := l) (D := D) (tw := 5) (I := J) hCJ.st hCJ.sg hCJ.rt (kd := s 117 i) (fm := s 118 i) (a := s 119 i) (to := c) hR.1.2.2.2.2.2 hR.1.1.2.2.1 hb.2.1 hb.2.2.1 hb.2.2.2.1 (by omega)
            have hK : zMk (zTrS s 0 (s 117 i) (s 118 i) (s 119 i) (c)) (s 119 i) J K := hK0
            refine P_callV (pc := 86) (S := []) (As := [_, _, _, _, _, _]) km dX11_best_86 ok_X9_make ml_X11_254 iv_X9_make ⟨by decide, by decide⟩ zret_v rfl ⟨rfl, by decide⟩ sh_67 ⟨by decide, rfl⟩ (Nat.le_of_ble_eq_true rfl) ?_
            refine P_aload_n (pc := 89) dX11_best_89 rfl ?_
            refine P_getr (pc := 90) 11 9 dX11_best_90 fl_X11_71 sh_0 fr_11_9 F_0_9 ?_
            refine P_iload (pc := 93) dX11_best_93 rfl ?_
            refine P_aload_n (pc := 95) dX11_best_95 rfl ?_
            refine P_getr (pc := 96) 11 4 dX11_best_96 fl_X11_36 sh_0 fr_11_4 F_0_4 ?_
            refine P_geti (pc := 99) 9 5 (x := (fun c => nI (zTrS s 0 (s 117 i) (s 118 i) (s 119 i) c).2.2.2.1) c) dX11_best_99 fl_X11_200 sh_67 fi_9_5 (hK.2.2.2.2.1) ?_
            obtain ⟨_, Q, _, kq, rfl, rfl, hQ1, hQ2⟩ := c_offerLeast (l := l) (D := D) (tw := 5) (I := K) (pk := zPkL (fun c => nI (zTrS s 0 (s 117 i) (s 118 i) (s 119 i) c).2.2.2.1) c) (hP.eq (hK.1 97 (by decide) (by decide) (by decide))) (fun k w e => by have := (zPkL_lt e).1; omega) (q := c) (u := (fun c => nI (zTrS s 0 (s 117 i) (s 118 i) (s 119 i) c).2.2.2.1) c)
            refine P_callV (pc := 102) (S := []) (As := [_, _]) kq dX11_best_102 ok_X1_offerLeast ml_X11_250 iv_X1_offerLeast ⟨by decide, by decide⟩ zret_v rfl ⟨rfl, by decide⟩ sh_97 ⟨by decide, rfl⟩ (Nat.le_of_ble_eq_true rfl) ?_
            refine P_iincN (pc := 105) (c := 1) dX11_best_105 rfl (by decide) (by decide) rfl ?_
            refine P_goto (pc := 108) (tgt := 36) dX11_best_108 (by decide) ?_
            exact ih (c + 1) Q (by omega) (by omega) ((hF.trans hK.1.sc).trans hQ1.sc) hQ2
      exact loop (s 111 0 + 1) 0 K0 (by omega) (by omega) hk1.sc hk2
    · refine P_iconst (pc := 16) (x := (-1)) dX11_best_16 (by decide) ?_
      exact P_iret (pc := 17) dX11_best_17 (⟨by unfold aBest; rw [if_neg (by intro z; simp_all)], rfl, zSc.rf⟩)
set_option maxRecDepth 20000 in
theorem c_watch11_5 {l : Launch} {D : va_G} {I : AI} {s : Nat → Nat → Nat} (hC : CR 5 s I) (hR : RInv s) {x : Int32} : ZP l D zm_X11_watch 0 (zent 3 [.ref 0, .int x]) [] I (zF 5) (fun v J G => v = some (aWatch s x) ∧ G = zF 5 ∧ zSc 5 I J) := by
  have hB1 := hC.st.2.1
  have hB2 := hC.wk.2.1
  have hB3 := hC.sg.2.1
  show ZP _ _ _ _ [some _, some _, none] _ _ _ _
  refine P_iload_n (pc := 0) dX11_watch_0 rfl ?_
  refine P_iconst (pc := 1) (x := nI 2) dX11_watch_1 (by decide) ?_
  obtain ⟨_, _, _, kw1, rfl, rfl, rfl⟩ := c_isWithin (l := l) (D := D) (tw := 5) (I := I) (x := x) (n := 2) (by omega)
  refine P_callS (pc := 2) (S := []) (As := [_, _]) kw1 dX11_watch_2 ok_X11_isWithin ml_X11_180 is_X11_isWithin ⟨by decide, by decide⟩ (zret_b (zix x 2)) rfl ⟨rfl, by decide⟩ (Nat.le_of_ble_eq_true rfl) ?_
  refine P_if_neB (pc := 5) (tgt := 10) dX11_watch_5 (by decide) (fun h5 => ?_) (fun h5 => ?_)
  · obtain ⟨j, hl_j, rfl⟩ := zix_t h5 (by omega)
    refine P_aload_n (pc := 10) dX11_watch_10 rfl ?_
    refine P_getr (pc := 11) 11 11 dX11_watch_11 fl_X11_80 sh_0 fr_11_11 F_0_11 ?_
    refine P_iconst (pc := 14) (x := nI 0) dX11_watch_14 (by decide) ?_
    obtain ⟨_, K1, _, kf, rfl, rfl, hf1, hf2⟩ := c_fill (l := l) (D := D) (tw := 5) (I := I) (a := 107) (n := 8) (x := nI 0) sh_107 (by decide)
    refine P_callS (pc := 15) (S := []) (As := [_, _]) kf dX11_watch_15 ok_J7_fill_53178 ml_X11_258 is_J7_fill_53178 ⟨by decide, by decide⟩ zret_v rfl ⟨rfl, by decide⟩ (Nat.le_of_ble_eq_true rfl) ?_
    refine P_iconst (pc := 18) (x := nI 0) dX11_watch_18 (by decide) ?_
    refine P_istore_n (pc := 19) dX11_watch_19 (by decide) rfl ?_
    have loop2 : ∀ (d : Nat) (c : Nat) (J : AI), s 111 0 - c < d → c ≤ s 111 0 → zSc 5 I J → (∀ x, x < 8 → J 107 x = nI (zWa s x)) → zPic J (zPkM (fun c => nI (zWa s c)) c) → ZP l D zm_X11_watch 65 [some (.ref 0), some (.int (nI j)), some (.int (nI c))] [] J (zF 5) (fun v J G => v = some (aWatch s (nI j)) ∧ G = zF 5 ∧ zSc 5 I J) := by
      intro d
      induction d with
      | zero =>
        intro c J hd
        exact absurd hd (by omega)
      | succ d ih =>
        intro c J hd hc hF hZ hP
        have hCJ := hC.sc hF (Or.inl rfl)
        refine P_iload_n (pc := 65) dX11_watch_65 rfl ?_
        refine P_aload_n (pc := 66) dX11_watch_66 rfl ?_
        refine P_getr (pc := 67) 11 2 dX11_watch_67 fl_X11_26 sh_0 fr_11_2 F_0_2 ?_
        refine P_getr (pc := 70) 8 0 dX11_watch_70 fl_X11_125 sh_5 fr_8_0 F_5_0 ?_
        refine P_geti (pc := 73) 6 0 (x := nI (s 111 0)) dX11_watch_73 fl_X11_143 sh_6 fi_6_0 (hCJ.st.1) ?_
        refine P_icmp_geN (pc := 76) (tgt := 99) dX11_watch_76 (by decide) (by omega) (by omega) (fun h76 => ?_) (fun h76 => ?_)
        · refine P_aload_n (pc := 99) dX11_watch_99 rfl ?_
          refine P_getr (pc := 100) 11 9 dX11_watch_100 fl_X11_71 sh_0 fr_11_9 F_0_9 ?_
          refine P_iload_n (pc := 103) dX11_watch_103 rfl ?_
          obtain ⟨_, _, _, ka, rfl, rfl, rfl⟩ := c_answer (l := l) (D := D) (tw := 5) (I := J) (pk := zPkM (fun c => nI (zWa s c)) c) hP (x := j) (by omega)
          refine P_callV (pc := 104) (S := []) (As := [_]) ka dX11_watch_104 ok_X1_answer ml_X11_247 iv_X1_answer ⟨by decide, by decide⟩ (zret_i _) rfl ⟨rfl, by decide⟩ sh_97 ⟨by decide, rfl⟩ (Nat.le_of_ble_eq_true rfl) ?_
          refine P_iret (pc := 107) dX11_watch_107 ?_
          have hc2 : c = s 111 0 := by omega
          subst hc2
          exact ⟨by unfold aWatch; rw [if_pos h5, nI_clamp (by omega)], rfl, hF⟩
        · refine P_aload_n (pc := 79) dX11_watch_79 rfl ?_
          refine P_getr (pc := 80) 11 9 dX11_watch_80 fl_X11_71 sh_0 fr_11_9 F_0_9 ?_
          refine P_iload_n (pc := 83) dX11_watch_83 rfl ?_
          refine P_aload_n (pc := 84) dX11_watch_84 rfl ?_
          refine P_getr (pc := 85) 11 11 dX11_watch_85 fl_X11_80 sh_0 fr_11_11 F_0_11 ?_
          refine P_iload_n (pc := 88) dX11_watch_88 rfl ?_
          refine P_iald (pc := 89) (c) (x := (fun c => nI (zWa s c)) c) dX11_watch_89 sh_107 rfl (by omega) (by decide) (hZ c (by omega)) ?_
          obtain ⟨_, Q, _, kq, rfl, rfl, hQ1, hQ2⟩ := c_offerMost (l := l) (D := D) (tw := 5) (I := J) (pk := zPkM (fun c => nI (zWa s c)) c) hP (fun k w e => by have := (zPkM_lt e).1; omega) (q := c) (u := (fun c => nI (zWa s c)) c)
          refine P_callV (pc := 90) (S := []) (As := [_, _]) kq dX11_watch_90 ok_X1_offerMost ml_X11_268 iv_X1_offerMost ⟨by decide, by decide⟩ zret_v rfl ⟨rfl, by decide⟩ sh_97 ⟨by decide, rfl⟩ (Nat.le_of_ble_eq_true rfl) ?_
          refine P_iincN (pc := 93) (c := 1) dX11_watch_93 rfl (by decide) (by decide) rfl ?_
          refine P_goto (pc := 96) (tgt := 65) dX11_watch_96 (by decide) ?_
          exact ih (c + 1) Q (by omega) (by omega) (hF.trans hQ1.sc) (fun x hx => (congrFun (hQ1 107 (by decide)) x).trans (hZ x hx)) hQ2
    have loop1 : ∀ (d : Nat) (i : Nat) (J : AI), s 116 0 - i < d → i ≤ s 116 0 → zSc 5 I J → (∀ x, x < 8 → J 107 x = nI (zSum (zTlW s 0 x) i)) → ZP l D zm_X11_watch 20 [some (.ref 0), some (.int (nI j)), some (.int (nI i))] [] J (zF 5) (fun v J G => v = some (aWatch s (nI j)) ∧ G = zF 5 ∧ zSc 5 I J) := by
      intro d
      induction d with
      | zero =>
        intro i J hd
        exact absurd hd (by omega)
      | succ d ih =>
        intro i J hd hi hF hZ
        have hCJ := hC.sc hF (Or.inl rfl)
        refine P_iload_n (pc := 20) dX11_watch_20 rfl ?_
        refine P_aload_n (pc := 21) dX11_watch_21 rfl ?_
        refine P_getr (pc := 22) 11 2 dX11_watch_22 fl_X11_26 sh_0 fr_11_2 F_0_2 ?_
        refine P_getr (pc := 25) 8 2 dX11_watch_25 fl_X11_116 sh_5 fr_8_2 F_5_2 ?_
        refine P_geti (pc := 28) 10 4 (x := nI (s 116 0)) dX11_watch_28 fl_X11_120 sh_31 fi_10_4 (hCJ.wk.1) ?_
        refine P_icmp_geN (pc := 31) (tgt := 56) dX11_watch_31 (by decide) (by omega) (by omega) (fun h31 => ?_) (fun h31 => ?_)
        · refine P_aload_n (pc := 56) dX11_watch_56 rfl ?_
          refine P_getr (pc := 57) 11 9 dX11_watch_57 fl_X11_71 sh_0 fr_11_9 F_0_9 ?_
          obtain ⟨_, K0, _, kc, rfl, rfl, hk1, hk2⟩ := c_pclear (l := l) (D := D) (tw := 5) (I := J)
          refine P_callV (pc := 60) (S := []) (As := []) kc dX11_watch_60 ok_X1_clear ml_X11_235 iv_X1_clear ⟨by decide, by decide⟩ zret_v rfl ⟨rfl, by decide⟩ sh_97 ⟨by decide, rfl⟩ (Nat.le_of_ble_eq_true rfl) ?_
          refine P_iconst (pc := 63) (x := nI 0) dX11_watch_63 (by decide) ?_
          refine P_istore_n (pc := 64) dX11_watch_64 (by decide) rfl ?_
          have hi2 : i = s 116 0 := by omega
          subst hi2
          exact loop2 (s 111 0 + 1) 0 K0 (by omega) (by omega) (hF.trans hk1.sc) (fun x hx => (congrFun (hk1 107 (by decide)) x).trans (hZ x hx)) hk2
        · refine P_aload_n (pc := 34) dX11_watch_34 rfl ?_
          refine P_iload_n (pc := 35) dX11_watch_35 rfl ?_
          obtain ⟨_, K, _, ks, rfl, rfl, hK⟩ := c_send_5 (l := l) (D := D) hCJ hR (i := i) (by omega)
          have hTr := hK.trS hR.1.1 hR.1.2.2.1.2.1 (by have := (hCJ.wk.2.2 i (by omega)).2.2.1; omega)
          refine P_callV (pc := 36) (S := []) (As := [_]) ks dX11_watch_36 ok_X11_send ml_X11_184 iv_X11_send ⟨by decide, by decide⟩ zret_v rfl ⟨rfl, by decide⟩ sh_0 ⟨by decide, rfl⟩ (Nat.le_of_ble_eq_true rfl) ?_
          refine P_aload_n (pc := 39) dX11_watch_39 rfl ?_
          refine P_getr (pc := 40) 11 4 dX11_watch_40 fl_X11_36 sh_0 fr_11_4 F_0_4 ?_
          refine P_aload_n (pc := 43) dX11_watch_43 rfl ?_
          refine P_getr (pc := 44) 11 11 dX11_watch_44 fl_X11_80 sh_0 fr_11_11 F_0_11 ?_
          obtain ⟨_, Q, _, kq, rfl, rfl, hQ1, hQ2⟩ := c_tallyWrong (l := l) (D := D) (tw := 5) (I := K) (T := zTw s 0 i) hTr
          refine P_callV (pc := 47) (S := []) (As := [_]) kq dX11_watch_47 ok_X9_tallyWrong ml_X11_264 iv_X9_tallyWrong ⟨by decide, by decide⟩ zret_v rfl ⟨rfl, by decide⟩ sh_67 ⟨by decide, rfl⟩ (Nat.le_of_ble_eq_true rfl) ?_
          refine P_iincN (pc := 50) (c := 1) dX11_watch_50 rfl (by decide) (by decide) rfl ?_
          refine P_goto (pc := 53) (tgt := 20) dX11_watch_53 (by decide) ?_
          exact ih (i + 1) Q (by omega) (by omega) ((hF.trans hK.1.sc).trans (fun a ha => hQ1 a (by omega))) (fun x hx => by rw [hQ2, hK.1 107 (by decide) (by decide) (by decide), hZ x hx, nI_add]; rfl)
    exact loop1 (s 116 0 + 1) 0 K1 (by omega) (by omega) (fun a ha => hf1 a (by omega)) (fun x hx => hf2 x hx)
  · refine P_iconst (pc := 8) (x := (-1)) dX11_watch_8 (by decide) ?_
    exact P_iret (pc := 9) dX11_watch_9 (⟨by unfold aWatch; rw [if_neg (by intro z; simp_all)], rfl, zSc.rf⟩)
set_option maxRecDepth 20000 in
theorem c_kinds11_5 {l : Launch} {D : va_G} {I : AI} {s : Nat → Nat → Nat} (hC : CR 5 s I) (hR : RInv s) {x : Int32} : ZP l D zm_X11_kinds 0 (zent 5 [.ref 0, .int x]) [] I (zF 5) (fun v J G => v = some (aKinds s x) ∧ G = zF 5 ∧ zSc 5 I J) := by
  have hB1 := hC.st.2.1
  have hB2 := hC.wk.2.1
  have hB3 := hC.sg.2.1
  show ZP _ _ _ _ [some _, some _, none, none, none] _ _ _ _
  refine P_aload_n (pc := 0) dX11_kinds_0 rfl ?_
  refine P_iload_n (pc := 1) dX11_kinds_1 rfl ?_
  obtain ⟨_, _, _, kw1, rfl, rfl, rfl⟩ := c_isWalker11_5 (l := l) (D := D) (I := I) (x := x) (n := s 116 0) hC.wk.1 (by omega)
  refine P_callV (pc := 2) (S := []) (As := [_]) kw1 dX11_kinds_2 ok_X11_isWalker ml_X11_167 iv_X11_isWalker ⟨by decide, by decide⟩ (zret_b (zix x (s 116 0))) rfl ⟨rfl, by decide⟩ sh_0 ⟨by decide, rfl⟩ (Nat.le_of_ble_eq_true rfl) ?_
  refine P_if_neB (pc := 5) (tgt := 10) dX11_kinds_5 (by decide) (fun h5 => ?_) (fun h5 => ?_)
  · obtain ⟨i, hl_i, rfl⟩ := zix_t h5 (by omega)
    refine P_aload_n (pc := 10) dX11_kinds_10 rfl ?_
    refine P_getr (pc := 11) 11 2 dX11_kinds_11 fl_X11_26 sh_0 fr_11_2 F_0_2 ?_
    refine P_getr (pc := 14) 8 2 dX11_kinds_14 fl_X11_116 sh_5 fr_8_2 F_5_2 ?_
    refine P_astore_n (pc := 17) dX11_kinds_17 (by decide) rfl ?_
    refine P_iconst (pc := 18) (x := nI 0) dX11_kinds_18 (by decide) ?_
    refine P_istore_n (pc := 19) dX11_kinds_19 (by decide) rfl ?_
    refine P_iconst (pc := 20) (x := nI 0) dX11_kinds_20 (by decide) ?_
    refine P_istore (pc := 21) dX11_kinds_21 (by decide) rfl ?_
    have loop : ∀ (d : Nat) (kd : Nat) (J : AI), 4 - kd < d → kd ≤ 4 → zSc 5 I J → ZP l D zm_X11_kinds 23 [some (.ref 0), some (.int (nI i)), some (.ref 31), some (.int (zBits (fun kd => zFit s i (zTrS s 0 kd (s 118 i) (s 119 i) (s 119 i)) (s 109 33)) kd)), some (.int (nI kd))] [] J (zF 5) (fun v J G => v = some (aKinds s (nI i)) ∧ G = zF 5 ∧ zSc 5 I J) := by
      intro d
      induction d with
      | zero =>
        intro kd J hd
        exact absurd hd (by omega)
      | succ d ih =>
        intro kd J hd hkd hF
        have hCJ := hC.sc hF (Or.inl rfl)
        have hb := hC.wk.2.2 i (by omega)
        refine P_iload (pc := 23) dX11_kinds_23 rfl ?_
        refine P_iconst (pc := 25) (x := nI 4) dX11_kinds_25 (by decide) ?_
        refine P_icmp_geN (pc := 26) (tgt := 95) dX11_kinds_26 (by decide) (by omega) (by omega) (fun h26 => ?_) (fun h26 => ?_)
        · refine P_iload_n (pc := 95) dX11_kinds_95 rfl ?_
          refine P_iret (pc := 96) dX11_kinds_96 ?_
          have hk2 : kd = 4 := by omega
          subst hk2
          exact ⟨by unfold aKinds; rw [if_pos h5, nI_clamp (by omega)], rfl, hF⟩
        · refine P_aload_n (pc := 29) dX11_kinds_29 rfl ?_
          refine P_getr (pc := 30) 11 4 dX11_kinds_30 fl_X11_36 sh_0 fr_11_4 F_0_4 ?_
          refine P_aload_n (pc := 33) dX11_kinds_33 rfl ?_
          refine P_getr (pc := 34) 11 2 dX11_kinds_34 fl_X11_26 sh_0 fr_11_2 F_0_2 ?_
          refine P_aload_n (pc := 37) dX11_kinds_37 rfl ?_
          refine P_getr (pc := 38) 11 2 dX11_kinds_38 fl_X11_26 sh_0 fr_11_2 F_0_2 ?_
          refine P_getr (pc := 41) 8 1 dX11_kinds_41 fl_X11_156 sh_5 fr_8_1 F_5_1 ?_
          refine P_iload (pc := 44) dX11_kinds_44 rfl ?_
          refine P_aload_n (pc := 46) dX11_kinds_46 rfl ?_
          refine P_getr (pc := 47) 10 1 dX11_kinds_47 fl_X11_173 sh_31 fr_10_1 F_31_1 ?_
          refine P_iload_n (pc := 50) dX11_kinds_50 rfl ?_
          refine P_iald (pc := 51) (i) (x := nI (s 118 i)) dX11_kinds_51 sh_33 rfl (by omega) (by decide) ((hCJ.wk.2.2 _ (by omega)).1.2.1) ?_
          refine P_aload_n (pc := 52) dX11_kinds_52 rfl ?_
          refine P_getr (pc := 53) 10 2 dX11_kinds_53 fl_X11_176 sh_31 fr_10_2 F_31_2 ?_
          refine P_iload_n (pc := 56) dX11_kinds_56 rfl ?_
          refine P_iald (pc := 57) (i) (x := nI (s 119 i)) dX11_kinds_57 sh_34 rfl (by omega) (by decide) ((hCJ.wk.2.2 _ (by omega)).1.2.2.1) ?_
          refine P_aload_n (pc := 58) dX11_kinds_58 rfl ?_
          refine P_getr (pc := 59) 10 3 dX11_kinds_59 fl_X11_177 sh_31 fr_10_3 F_31_3 ?_
          refine P_iload_n (pc := 62) dX11_kinds_62 rfl ?_
          refine P_iald (pc := 63) (i) (x := nI (s 122 (28 + i))) dX11_kinds_63 sh_35 rfl (by omega) (by decide) ((hCJ.wk.2.2 _ (by omega)).1.2.2.2) ?_
          obtain ⟨_, K, _, km, rfl, rfl, hK0⟩ := c_make_5_27 (l := l) (D := D) (tw := 5) (I := J) hCJ.st hCJ.sg hCJ.rt (kd := kd) (fm := s 118 i) (a := s 119 i) (to := s 122 (28 + i)) hR.1.2.2.2.2.2 hR.1.1.2.2.1 (by omega) hb.2.2.1 hb.2.2.2.1 hb.2.2.2.2
          have hK : zMk (zTrS s 0 (kd) (s 118 i) (s 119 i) (s 122 (28 + i))) (s 119 i) J K := hK0
          refine P_callV (pc := 64) (S := []) (As := [_, _, _, _, _, _]) km dX11_kinds_64 ok_X9_make ml_X11_254 iv_X9_make ⟨by decide, by decide⟩ zret_v rfl ⟨rfl, by decide⟩ sh_67 ⟨by decide, rfl⟩ (Nat.le_of_ble_eq_true rfl) ?_
          refine P_aload_n (pc := 67) dX11_kinds_67 rfl ?_
          refine P_getr (pc := 68) 11 8 dX11_kinds_68 fl_X11_64 sh_0 fr_11_8 F_0_8 ?_
          refine P_iload_n (pc := 71) dX11_kinds_71 rfl ?_
          refine P_aload_n (pc := 72) dX11_kinds_72 rfl ?_
          refine P_getr (pc := 73) 11 4 dX11_kinds_73 fl_X11_36 sh_0 fr_11_4 F_0_4 ?_
          have hTr := hK.trS hR.1.1 hR.1.2.2.1.2.1 hb.2.2.1
          obtain ⟨_, _, _, kf, rfl, rfl, rfl⟩ := c_fit (l := l) (D := D) (tw := 5) (I := K) (s := s) (hCJ.se.eq (fun a h1 h2 => hK.1 a (by omega) (by omega) (by omega))) (T := zTrS s 0 kd (s 118 i) (s 119 i) (s 122 (28 + i))) hTr (i := i) (by omega)
          refine P_callV (pc := 76) (S := []) (As := [_, _]) kf dX11_kinds_76 ok_X4_fit ml_X11_279 iv_X4_fit ⟨by decide, by decide⟩ (zret_b (zFit s i (zTrS s 0 kd (s 118 i) (s 119 i) (s 122 (28 + i))) (s 109 33))) rfl ⟨rfl, by decide⟩ sh_93 ⟨by decide, rfl⟩ (Nat.le_of_ble_eq_true rfl) ?_
          refine P_if_eqB (pc := 79) (tgt := 89) dX11_kinds_79 (by decide) (fun h79 => ?_) (fun h79 => ?_)
          · refine P_iincN (pc := 89) (c := 1) dX11_kinds_89 rfl (by decide) (by decide) rfl ?_
            refine P_goto (pc := 92) (tgt := 23) dX11_kinds_92 (by decide) ?_
            have h9 := ih (kd + 1) K (by omega) (by omega) (hF.trans hK.1.sc)
            have hz : zBits (fun kd => zFit s i (zTrS s 0 kd (s 118 i) (s 119 i) (s 119 i)) (s 109 33)) (kd + 1) = zBits (fun kd => zFit s i (zTrS s 0 kd (s 118 i) (s 119 i) (s 119 i)) (s 109 33)) kd ||| (if (fun kd => zFit s i (zTrS s 0 kd (s 118 i) (s 119 i) (s 119 i)) (s 109 33)) kd = true then nI 1 <<< (nI kd &&& 31) else nI 0) := rfl
            have hl : (fun kd => zFit s i (zTrS s 0 kd (s 118 i) (s 119 i) (s 119 i)) (s 109 33)) kd = zFit s i (zTrS s 0 kd (s 118 i) (s 119 i) (s 122 (28 + i))) (s 109 33) := zFit_to (fun k => zTrS_to k) _
            rw [hz, hl, h79] at h9
            rw [if_neg (by decide), nI_0, Int32.or_zero] at h9
            exact h9
          · refine P_iload_n (pc := 82) dX11_kinds_82 rfl ?_
            refine P_iconst (pc := 83) (x := nI 1) dX11_kinds_83 (by decide) ?_
            refine P_iload (pc := 84) dX11_kinds_84 rfl ?_
            refine P_ishl (pc := 86) dX11_kinds_86 ?_
            refine P_ior (pc := 87) dX11_kinds_87 ?_
            refine P_istore_n (pc := 88) dX11_kinds_88 (by decide) rfl ?_
            refine P_iincN (pc := 89) (c := 1) dX11_kinds_89 rfl (by decide) (by decide) rfl ?_
            refine P_goto (pc := 92) (tgt := 23) dX11_kinds_92 (by decide) ?_
            have h9 := ih (kd + 1) K (by omega) (by omega) (hF.trans hK.1.sc)
            have hz : zBits (fun kd => zFit s i (zTrS s 0 kd (s 118 i) (s 119 i) (s 119 i)) (s 109 33)) (kd + 1) = zBits (fun kd => zFit s i (zTrS s 0 kd (s 118 i) (s 119 i) (s 119 i)) (s 109 33)) kd ||| (if (fun kd => zFit s i (zTrS s 0 kd (s 118 i) (s 119 i) (s 119 i)) (s 109 33)) kd = true then nI 1 <<< (nI kd &&& 31) else nI 0) := rfl
            have hl : (fun kd => zFit s i (zTrS s 0 kd (s 118 i) (s 119 i) (s 119 i)) (s 109 33)) kd = zFit s i (zTrS s 0 kd (s 118 i) (s 119 i) (s 122 (28 + i))) (s 109 33) := zFit_to (fun k => zTrS_to k) _
            rw [hz, hl, h79] at h9
            rw [if_pos rfl] at h9
            exact h9
    exact loop 5 0 I (by omega) (by omega) zSc.rf
  · refine P_iconst (pc := 8) (x := (-1)) dX11_kinds_8 (by decide) ?_
    exact P_iret (pc := 9) dX11_kinds_9 (⟨by unfold aKinds; rw [if_neg (by intro z; simp_all)], rfl, zSc.rf⟩)
set_option maxRecDepth 20000 in
theorem c_missed11_5 {l : Launch} {D : va_G} {I : AI} {s : Nat → Nat → Nat} (hC : CR 5 s I) (hR : RInv s) {x : Int32} : ZP l D zm_X11_missed 0 (zent 4 [.ref 0, .int x]) [] I (zF 5) (fun v J G => v = some (aMissed s x) ∧ G = zF 5 ∧ zSc 5 I J) := by
  have hB1 := hC.st.2.1
  have hB2 := hC.wk.2.1
  have hB3 := hC.sg.2.1
  have hB4 := hC.sr.2.2.2.1
  show ZP _ _ _ _ [some _, some _, none, none] _ _ _ _
  refine P_iload_n (pc := 0) dX11_missed_0 rfl ?_
  refine P_iconst (pc := 1) (x := nI 2) dX11_missed_1 (by decide) ?_
  obtain ⟨_, _, _, kw1, rfl, rfl, rfl⟩ := c_isWithin (l := l) (D := D) (tw := 5) (I := I) (x := x) (n := 2) (by omega)
  refine P_callS (pc := 2) (S := []) (As := [_, _]) kw1 dX11_missed_2 ok_X11_isWithin ml_X11_180 is_X11_isWithin ⟨by decide, by decide⟩ (zret_b (zix x 2)) rfl ⟨rfl, by decide⟩ (Nat.le_of_ble_eq_true rfl) ?_
  refine P_if_neB (pc := 5) (tgt := 10) dX11_missed_5 (by decide) (fun h5 => ?_) (fun h5 => ?_)
  · obtain ⟨j, hl_j, rfl⟩ := zix_t h5 (by omega)
    refine P_aload_n (pc := 10) dX11_missed_10 rfl ?_
    refine P_getr (pc := 11) 11 2 dX11_missed_11 fl_X11_26 sh_0 fr_11_2 F_0_2 ?_
    refine P_aload_n (pc := 14) dX11_missed_14 rfl ?_
    refine P_getr (pc := 15) 11 2 dX11_missed_15 fl_X11_26 sh_0 fr_11_2 F_0_2 ?_
    refine P_getr (pc := 18) 8 0 dX11_missed_18 fl_X11_125 sh_5 fr_8_0 F_5_0 ?_
    refine P_getr (pc := 21) 6 5 dX11_missed_21 fl_X11_129 sh_6 fr_6_5 F_6_5 ?_
    obtain ⟨_, _, _, kn, rfl, rfl, rfl⟩ := c_minutes_5_18 (l := l) (D := D) (tw := 5) (I := I) (f := fun a b => s 124 (8 * a + b)) hC.wk hC.st.2.2.2.1
    refine P_callV (pc := 24) (S := []) (As := [_]) kn dX11_missed_24 ok_X8_minutesToAims ml_X11_271 iv_X8_minutesToAims ⟨by decide, by decide⟩ (zret_i _) rfl ⟨rfl, by decide⟩ sh_5 ⟨by decide, rfl⟩ (Nat.le_of_ble_eq_true rfl) ?_
    refine P_istore_n (pc := 27) dX11_missed_27 (by decide) rfl ?_
    refine P_aload_n (pc := 28) dX11_missed_28 rfl ?_
    refine P_getr (pc := 29) 11 9 dX11_missed_29 fl_X11_71 sh_0 fr_11_9 F_0_9 ?_
    obtain ⟨_, K0, _, kc, rfl, rfl, hk1, hk2⟩ := c_pclear (l := l) (D := D) (tw := 5) (I := I)
    refine P_callV (pc := 32) (S := []) (As := []) kc dX11_missed_32 ok_X1_clear ml_X11_235 iv_X1_clear ⟨by decide, by decide⟩ zret_v rfl ⟨rfl, by decide⟩ sh_97 ⟨by decide, rfl⟩ (Nat.le_of_ble_eq_true rfl) ?_
    refine P_iconst (pc := 35) (x := nI 0) dX11_missed_35 (by decide) ?_
    refine P_istore_n (pc := 36) dX11_missed_36 (by decide) rfl ?_
    have loop : ∀ (d : Nat) (k : Nat) (J : AI), s 112 0 - k < d → k ≤ s 112 0 → zSc 5 I J → zPic J (zPkM (fun k => zMw (zFa s (some k)) (zFa s none) (s 116 0)) k) → ZP l D zm_X11_missed 37 [some (.ref 0), some (.int (nI j)), some (.int (zMa (fun i => s 124 (8 * s 118 i + s 119 i)) (s 116 0))), some (.int (nI k))] [] J (zF 5) (fun v J G => v = some (aMissed s (nI j)) ∧ G = zF 5 ∧ zSc 5 I J) := by
      intro d
      induction d with
      | zero =>
        intro k J hd
        exact absurd hd (by omega)
      | succ d ih =>
        intro k J hd hk hF hP
        have hCJ := hC.sc hF (Or.inl rfl)
        refine P_iload_n (pc := 37) dX11_missed_37 rfl ?_
        refine P_aload_n (pc := 38) dX11_missed_38 rfl ?_
        refine P_getr (pc := 39) 11 2 dX11_missed_39 fl_X11_26 sh_0 fr_11_2 F_0_2 ?_
        refine P_getr (pc := 42) 8 0 dX11_missed_42 fl_X11_125 sh_5 fr_8_0 F_5_0 ?_
        refine P_geti (pc := 45) 6 1 (x := nI (s 112 0)) dX11_missed_45 fl_X11_275 sh_6 fi_6_1 (hCJ.sr.2.2.1) ?_
        refine P_icmp_geN (pc := 48) (tgt := 93) dX11_missed_48 (by decide) (by omega) (by omega) (fun h48 => ?_) (fun h48 => ?_)
        · refine P_aload_n (pc := 93) dX11_missed_93 rfl ?_
          refine P_getr (pc := 94) 11 9 dX11_missed_94 fl_X11_71 sh_0 fr_11_9 F_0_9 ?_
          refine P_iload_n (pc := 97) dX11_missed_97 rfl ?_
          obtain ⟨_, _, _, ka, rfl, rfl, rfl⟩ := c_answer (l := l) (D := D) (tw := 5) (I := J) (pk := zPkM (fun k => zMw (zFa s (some k)) (zFa s none) (s 116 0)) k) hP (x := j) (by omega)
          refine P_callV (pc := 98) (S := []) (As := [_]) ka dX11_missed_98 ok_X1_answer ml_X11_247 iv_X1_answer ⟨by decide, by decide⟩ (zret_i _) rfl ⟨rfl, by decide⟩ sh_97 ⟨by decide, rfl⟩ (Nat.le_of_ble_eq_true rfl) ?_
          refine P_iret (pc := 101) dX11_missed_101 ?_
          have hk2 : k = s 112 0 := by omega
          subst hk2
          exact ⟨by unfold aMissed; rw [if_pos h5, nI_clamp (by omega)]; rfl, rfl, hF⟩
        · refine P_aload_n (pc := 51) dX11_missed_51 rfl ?_
          refine P_getr (pc := 52) 11 2 dX11_missed_52 fl_X11_26 sh_0 fr_11_2 F_0_2 ?_
          refine P_getr (pc := 55) 8 0 dX11_missed_55 fl_X11_125 sh_5 fr_8_0 F_5_0 ?_
          refine P_aload_n (pc := 58) dX11_missed_58 rfl ?_
          refine P_getr (pc := 59) 11 10 dX11_missed_59 fl_X11_77 sh_0 fr_11_10 F_0_10 ?_
          refine P_iload_n (pc := 62) dX11_missed_62 rfl ?_
          obtain ⟨_, K, _, km, rfl, rfl, hK1, hK2⟩ := c_measure_5_98 (l := l) (D := D) (tw := 5) (I := J) hCJ.sr (w := some k) (fun q e => by cases e; omega)
          refine P_callV (pc := 63) (S := []) (As := [_, _]) km dX11_missed_63 ok_X6_measure ml_X11_134 iv_X6_measure ⟨by decide, by decide⟩ zret_v rfl ⟨rfl, by decide⟩ sh_6 ⟨by decide, rfl⟩ (Nat.le_of_ble_eq_true rfl) ?_
          refine P_aload_n (pc := 66) dX11_missed_66 rfl ?_
          refine P_getr (pc := 67) 11 9 dX11_missed_67 fl_X11_71 sh_0 fr_11_9 F_0_9 ?_
          refine P_iload_n (pc := 70) dX11_missed_70 rfl ?_
          refine P_aload_n (pc := 71) dX11_missed_71 rfl ?_
          refine P_getr (pc := 72) 11 2 dX11_missed_72 fl_X11_26 sh_0 fr_11_2 F_0_2 ?_
          refine P_aload_n (pc := 75) dX11_missed_75 rfl ?_
          refine P_getr (pc := 76) 11 10 dX11_missed_76 fl_X11_77 sh_0 fr_11_10 F_0_10 ?_
          obtain ⟨_, _, _, kn, rfl, rfl, rfl⟩ := c_minutes_5_98 (l := l) (D := D) (tw := 5) (I := K) (f := fun a b => zFar (nrS s (some k)) (8 * a + b)) (hCJ.sc hK1.sc (Or.inl rfl)).wk hK2
          refine P_callV (pc := 79) (S := [_, _]) (As := [_]) kn dX11_missed_79 ok_X8_minutesToAims ml_X11_271 iv_X8_minutesToAims ⟨by decide, by decide⟩ (zret_i _) rfl ⟨rfl, by decide⟩ sh_5 ⟨by decide, rfl⟩ (Nat.le_of_ble_eq_true rfl) ?_
          refine P_iload_n (pc := 82) dX11_missed_82 rfl ?_
          refine P_isub (pc := 83) dX11_missed_83 ?_
          have hu : zMa (fun i => zFar (nrS s (some k)) (8 * s 118 i + s 119 i)) (s 116 0) - zMa (fun i => s 124 (8 * s 118 i + s 119 i)) (s 116 0) = (fun k => zMw (zFa s (some k)) (zFa s none) (s 116 0)) k := by
            rw [zMa_sub]
            exact zMw_c (fun i hi => ⟨rfl, (hR.1.2.2.2.2.1 _ (by have := hC.wk.2.2 i hi; omega)).2⟩)
          rw [hu]
          obtain ⟨_, Q, _, kq, rfl, rfl, hQ1, hQ2⟩ := c_offerMost (l := l) (D := D) (tw := 5) (I := K) (pk := zPkM (fun k => zMw (zFa s (some k)) (zFa s none) (s 116 0)) k) (hP.eq (hK1 97 (by omega))) (fun k w e => by have := (zPkM_lt e).1; omega) (q := k) (u := (fun k => zMw (zFa s (some k)) (zFa s none) (s 116 0)) k)
          refine P_callV (pc := 84) (S := []) (As := [_, _]) kq dX11_missed_84 ok_X1_offerMost ml_X11_268 iv_X1_offerMost ⟨by decide, by decide⟩ zret_v rfl ⟨rfl, by decide⟩ sh_97 ⟨by decide, rfl⟩ (Nat.le_of_ble_eq_true rfl) ?_
          refine P_iincN (pc := 87) (c := 1) dX11_missed_87 rfl (by decide) (by decide) rfl ?_
          refine P_goto (pc := 90) (tgt := 37) dX11_missed_90 (by decide) ?_
          exact ih (k + 1) Q (by omega) (by omega) ((hF.trans hK1.sc).trans hQ1.sc) hQ2
    exact loop (s 112 0 + 1) 0 K0 (by omega) (by omega) hk1.sc hk2
  · refine P_iconst (pc := 8) (x := (-1)) dX11_missed_8 (by decide) ?_
    exact P_iret (pc := 9) dX11_missed_9 (⟨by unfold aMissed; rw [if_neg (by intro z; simp_all)], rfl, zSc.rf⟩)
set_option maxRecDepth 20000 in
theorem c_best11_36 {l : Launch} {D : va_G} {I : AI} {s : Nat → Nat → Nat} (hC : CR 36 s I) (hR : RInv s) {x y : Int32} : ZP l D zm_X11_best 0 (zent 5 [.ref 0, .int x, .int y]) [] I (zF 36) (fun v J G => v = some (aBest s x y) ∧ G = zF 36 ∧ zSc 36 I J) := by
  have hB1 := hC.st.2.1
  have hB2 := hC.wk.2.1
  have hB3 := hC.sg.2.1
  show ZP _ _ _ _ [some _, some _, some _, none, none] _ _ _ _
  refine P_aload_n (pc := 0) dX11_best_0 rfl ?_
  refine P_iload_n (pc := 1) dX11_best_1 rfl ?_
  obtain ⟨_, _, _, kw1, rfl, rfl, rfl⟩ := c_isWalker11_36 (l := l) (D := D) (I := I) (x := x) (n := s 116 0) hC.wk.1 (by omega)
  refine P_callV (pc := 2) (S := []) (As := [_]) kw1 dX11_best_2 ok_X11_isWalker ml_X11_167 iv_X11_isWalker ⟨by decide, by decide⟩ (zret_b (zix x (s 116 0))) rfl ⟨rfl, by decide⟩ sh_0 ⟨by decide, rfl⟩ (Nat.le_of_ble_eq_true rfl) ?_
  refine P_if_eqB (pc := 5) (tgt := 16) dX11_best_5 (by decide) (fun h5 => ?_) (fun h5 => ?_)
  · refine P_iconst (pc := 16) (x := (-1)) dX11_best_16 (by decide) ?_
    exact P_iret (pc := 17) dX11_best_17 (⟨by unfold aBest; rw [if_neg (by intro z; simp_all)], rfl, zSc.rf⟩)
  · obtain ⟨i, hl_i, rfl⟩ := zix_t h5 (by omega)
    refine P_iload_n (pc := 8) dX11_best_8 rfl ?_
    refine P_iconst (pc := 9) (x := nI 2) dX11_best_9 (by decide) ?_
    obtain ⟨_, _, _, kw2, rfl, rfl, rfl⟩ := c_isWithin (l := l) (D := D) (tw := 36) (I := I) (x := y) (n := 2) (by omega)
    refine P_callS (pc := 10) (S := []) (As := [_, _]) kw2 dX11_best_10 ok_X11_isWithin ml_X11_180 is_X11_isWithin ⟨by decide, by decide⟩ (zret_b (zix y 2)) rfl ⟨rfl, by decide⟩ (Nat.le_of_ble_eq_true rfl) ?_
    refine P_if_neB (pc := 13) (tgt := 18) dX11_best_13 (by decide) (fun h13 => ?_) (fun h13 => ?_)
    · obtain ⟨j, hl_j, rfl⟩ := zix_t h13 (by omega)
      refine P_aload_n (pc := 18) dX11_best_18 rfl ?_
      refine P_getr (pc := 19) 11 2 dX11_best_19 fl_X11_26 sh_0 fr_11_2 F_0_2 ?_
      refine P_getr (pc := 22) 8 2 dX11_best_22 fl_X11_116 sh_36 fr_8_2 F_36_2 ?_
      refine P_astore_n (pc := 25) dX11_best_25 (by decide) rfl ?_
      refine P_aload_n (pc := 26) dX11_best_26 rfl ?_
      refine P_getr (pc := 27) 11 9 dX11_best_27 fl_X11_71 sh_0 fr_11_9 F_0_9 ?_
      obtain ⟨_, K0, _, kc, rfl, rfl, hk1, hk2⟩ := c_pclear (l := l) (D := D) (tw := 36) (I := I)
      refine P_callV (pc := 30) (S := []) (As := []) kc dX11_best_30 ok_X1_clear ml_X11_235 iv_X1_clear ⟨by decide, by decide⟩ zret_v rfl ⟨rfl, by decide⟩ sh_97 ⟨by decide, rfl⟩ (Nat.le_of_ble_eq_true rfl) ?_
      refine P_iconst (pc := 33) (x := nI 0) dX11_best_33 (by decide) ?_
      refine P_istore (pc := 34) dX11_best_34 (by decide) rfl ?_
      have loop : ∀ (d : Nat) (c : Nat) (J : AI), s 111 0 - c < d → c ≤ s 111 0 → zSc 36 I J → zPic J (zPkL (fun c => nI (zTrS s 0 (s 117 i) (s 118 i) (s 119 i) c).2.2.2.1) c) → ZP l D zm_X11_best 36 [some (.ref 0), some (.int (nI i)), some (.int (nI j)), some (.ref 62), some (.int (nI c))] [] J (zF 36) (fun v J G => v = some (aBest s (nI i) (nI j)) ∧ G = zF 36 ∧ zSc 36 I J) := by
        intro d
        induction d with
        | zero =>
          intro c J hd
          exact absurd hd (by omega)
        | succ d ih =>
          intro c J hd hc hF hP
          have hCJ := hC.sc hF (Or.inr rfl)
          have hb := hC.wk.2.2 i (by omega)
          refine P_iload (pc := 36) dX11_best_36 rfl ?_
          refine P_aload_n (pc := 38) dX11_best_38 rfl ?_
          refine P_getr (pc := 39) 11 2 dX11_best_39 fl_X11_26 sh_0 fr_11_2 F_0_2 ?_
          refine P_getr (pc := 42) 8 0 dX11_best_42 fl_X11_125 sh_36 fr_8_0 F_36_0 ?_
          refine P_geti (pc := 45) 6 0 (x := nI (s 111 0)) dX11_best_45 fl_X11_143 sh_37 fi_6_0 (hCJ.st.1) ?_
          refine P_icmp_geN (pc := 48) (tgt := 111) dX11_best_48 (by decide) (by omega) (by omega) (fun h48 => ?_) (fun h48 => ?_)
          · refine P_aload_n (pc := 111) dX11_best_111 rfl ?_
            refine P_getr (pc := 112) 11 9 dX11_best_112 fl_X11_71 sh_0 fr_11_9 F_0_9 ?_
            refine P_iload_n (pc := 115) dX11_best_115 rfl ?_
            obtain ⟨_, _, _, ka, rfl, rfl, rfl⟩ := c_answer (l := l) (D := D) (tw := 36) (I := J) (pk := zPkL (fun c => nI (zTrS s 0 (s 117 i) (s 118 i) (s 119 i) c).2.2.2.1) c) hP (x := j) (by omega)
            refine P_callV (pc := 116) (S := []) (As := [_]) ka dX11_best_116 ok_X1_answer ml_X11_247 iv_X1_answer ⟨by decide, by decide⟩ (zret_i _) rfl ⟨rfl, by decide⟩ sh_97 ⟨by decide, rfl⟩ (Nat.le_of_ble_eq_true rfl) ?_
            refine P_iret (pc := 119) dX11_best_119 ?_
            have hc2 : c = s 111 0 := by omega
            subst hc2
            have ha : aBest s (nI i) (nI j) = if j = 0 then zp1 (zBp s i) else zp2 (zBp s i) := by unfold aBest; rw [if_pos ⟨h5, h13⟩, nI_clamp (by omega), nI_clamp (by omega)]
            exact ⟨by rw [ha]; rfl, rfl, hF⟩
          · refine P_aload_n (pc := 51) dX11_best_51 rfl ?_
            refine P_getr (pc := 52) 11 4 dX11_best_52 fl_X11_36 sh_0 fr_11_4 F_0_4 ?_
            refine P_aload_n (pc := 55) dX11_best_55 rfl ?_
            refine P_getr (pc := 56) 11 2 dX11_best_56 fl_X11_26 sh_0 fr_11_2 F_0_2 ?_
            refine P_aload_n (pc := 59) dX11_best_59 rfl ?_
            refine P_getr (pc := 60) 11 2 dX11_best_60 fl_X11_26 sh_0 fr_11_2 F_0_2 ?_
            refine P_getr (pc := 63) 8 1 dX11_best_63 fl_X11_156 sh_36 fr_8_1 F_36_1 ?_
            refine P_aload_n (pc := 66) dX11_best_66 rfl ?_
            refine P_getr (pc := 67) 10 0 dX11_best_67 fl_X11_170 sh_62 fr_10_0 F_62_0 ?_
            refine P_iload_n (pc := 70) dX11_best_70 rfl ?_
            refine P_iald (pc := 71) (i) (x := nI (s 117 i)) dX11_best_71 sh_63 rfl (by omega) (by decide) ((hCJ.wk.2.2 _ (by omega)).1.1) ?_
            refine P_aload_n (pc := 72) dX11_best_72 rfl ?_
            refine P_getr (pc := 73) 10 1 dX11_best_73 fl_X11_173 sh_62 fr_10_1 F_62_1 ?_
            refine P_iload_n (pc := 76) dX11_best_76 rfl ?_
            refine P_iald (pc := 77) (i) (x := nI (s 118 i)) dX11_best_77 sh_64 rfl (by omega) (by decide) ((hCJ.wk.2.2 _ (by omega)).1.2.1) ?_
            refine P_aload_n (pc := 78) dX11_best_78 rfl ?_
            refine P_getr (pc := 79) 10 2 dX11_best_79 fl_X11_176 sh_62 fr_10_2 F_62_2 ?_
            refine P_iload_n (pc := 82) dX11_best_82 rfl ?_
            refine P_iald (pc := 83) (i) (x := nI (s 119 i)) dX11_best_83 sh_65 rfl (by omega) (by decide) ((hCJ.wk.2.2 _ (by omega)).1.2.2.1) ?_
            refine P_iload (pc := 84) dX11_best_84 rfl ?_
            obtain ⟨_, K, _, km, rfl, rfl, hK0⟩ := c_make_36_58 (l := l) (D := D) (tw := 36) (I := J) hCJ.st hCJ.sg hCJ.rt (kd := s 117 i) (fm := s 118 i) (a := s 119 i) (to := c) hR.1.2.2.2.2.2 hR.1.1.2.2.1 hb.2.1 hb.2.2.1 hb.2.2.2.1 (by omega)
            have hK : zMk (zTrS s 0 (s 117 i) (s 118 i) (s 119 i) (c)) (s 119 i) J K := hK0
            refine P_callV (pc := 86) (S := []) (As := [_, _, _, _, _, _]) km dX11_best_86 ok_X9_make ml_X11_254 iv_X9_make ⟨by decide, by decide⟩ zret_v rfl ⟨rfl, by decide⟩ sh_67 ⟨by decide, rfl⟩ (Nat.le_of_ble_eq_true rfl) ?_
            refine P_aload_n (pc := 89) dX11_best_89 rfl ?_
            refine P_getr (pc := 90) 11 9 dX11_best_90 fl_X11_71 sh_0 fr_11_9 F_0_9 ?_
            refine P_iload (pc := 93) dX11_best_93 rfl ?_
            refine P_aload_n (pc := 95) dX11_best_95 rfl ?_
            refine P_getr (pc := 96) 11 4 dX11_best_96 fl_X11_36 sh_0 fr_11_4 F_0_4 ?_
            refine P_geti (pc := 99) 9 5 (x := (fun c => nI (zTrS s 0 (s 117 i) (s 118 i) (s 119 i) c).2.2.2.1) c) dX11_best_99 fl_X11_200 sh_67 fi_9_5 (hK.2.2.2.2.1) ?_
            obtain ⟨_, Q, _, kq, rfl, rfl, hQ1, hQ2⟩ := c_offerLeast (l := l) (D := D) (tw := 36) (I := K) (pk := zPkL (fun c => nI (zTrS s 0 (s 117 i) (s 118 i) (s 119 i) c).2.2.2.1) c) (hP.eq (hK.1 97 (by decide) (by decide) (by decide))) (fun k w e => by have := (zPkL_lt e).1; omega) (q := c) (u := (fun c => nI (zTrS s 0 (s 117 i) (s 118 i) (s 119 i) c).2.2.2.1) c)
            refine P_callV (pc := 102) (S := []) (As := [_, _]) kq dX11_best_102 ok_X1_offerLeast ml_X11_250 iv_X1_offerLeast ⟨by decide, by decide⟩ zret_v rfl ⟨rfl, by decide⟩ sh_97 ⟨by decide, rfl⟩ (Nat.le_of_ble_eq_true rfl) ?_
            refine P_iincN (pc := 105) (c := 1) dX11_best_105 rfl (by decide) (by decide) rfl ?_
            refine P_goto (pc := 108) (tgt := 36) dX11_best_108 (by decide) ?_
            exact ih (c + 1) Q (by omega) (by omega) ((hF.trans hK.1.sc).trans hQ1.sc) hQ2
      exact loop (s 111 0 + 1) 0 K0 (by omega) (by omega) hk1.sc hk2
    · refine P_iconst (pc := 16) (x := (-1)) dX11_best_16 (by decide) ?_
      exact P_iret (pc := 17) dX11_best_17 (⟨by unfold aBest; rw [if_neg (by intro z; simp_all)], rfl, zSc.rf⟩)
set_option maxRecDepth 20000 in
theorem c_watch11_36 {l : Launch} {D : va_G} {I : AI} {s : Nat → Nat → Nat} (hC : CR 36 s I) (hR : RInv s) {x : Int32} : ZP l D zm_X11_watch 0 (zent 3 [.ref 0, .int x]) [] I (zF 36) (fun v J G => v = some (aWatch s x) ∧ G = zF 36 ∧ zSc 36 I J) := by
  have hB1 := hC.st.2.1
  have hB2 := hC.wk.2.1
  have hB3 := hC.sg.2.1
  show ZP _ _ _ _ [some _, some _, none] _ _ _ _
  refine P_iload_n (pc := 0) dX11_watch_0 rfl ?_
  refine P_iconst (pc := 1) (x := nI 2) dX11_watch_1 (by decide) ?_
  obtain ⟨_, _, _, kw1, rfl, rfl, rfl⟩ := c_isWithin (l := l) (D := D) (tw := 36) (I := I) (x := x) (n := 2) (by omega)
  refine P_callS (pc := 2) (S := []) (As := [_, _]) kw1 dX11_watch_2 ok_X11_isWithin ml_X11_180 is_X11_isWithin ⟨by decide, by decide⟩ (zret_b (zix x 2)) rfl ⟨rfl, by decide⟩ (Nat.le_of_ble_eq_true rfl) ?_
  refine P_if_neB (pc := 5) (tgt := 10) dX11_watch_5 (by decide) (fun h5 => ?_) (fun h5 => ?_)
  · obtain ⟨j, hl_j, rfl⟩ := zix_t h5 (by omega)
    refine P_aload_n (pc := 10) dX11_watch_10 rfl ?_
    refine P_getr (pc := 11) 11 11 dX11_watch_11 fl_X11_80 sh_0 fr_11_11 F_0_11 ?_
    refine P_iconst (pc := 14) (x := nI 0) dX11_watch_14 (by decide) ?_
    obtain ⟨_, K1, _, kf, rfl, rfl, hf1, hf2⟩ := c_fill (l := l) (D := D) (tw := 36) (I := I) (a := 107) (n := 8) (x := nI 0) sh_107 (by decide)
    refine P_callS (pc := 15) (S := []) (As := [_, _]) kf dX11_watch_15 ok_J7_fill_53178 ml_X11_258 is_J7_fill_53178 ⟨by decide, by decide⟩ zret_v rfl ⟨rfl, by decide⟩ (Nat.le_of_ble_eq_true rfl) ?_
    refine P_iconst (pc := 18) (x := nI 0) dX11_watch_18 (by decide) ?_
    refine P_istore_n (pc := 19) dX11_watch_19 (by decide) rfl ?_
    have loop2 : ∀ (d : Nat) (c : Nat) (J : AI), s 111 0 - c < d → c ≤ s 111 0 → zSc 36 I J → (∀ x, x < 8 → J 107 x = nI (zWa s x)) → zPic J (zPkM (fun c => nI (zWa s c)) c) → ZP l D zm_X11_watch 65 [some (.ref 0), some (.int (nI j)), some (.int (nI c))] [] J (zF 36) (fun v J G => v = some (aWatch s (nI j)) ∧ G = zF 36 ∧ zSc 36 I J) := by
      intro d
      induction d with
      | zero =>
        intro c J hd
        exact absurd hd (by omega)
      | succ d ih =>
        intro c J hd hc hF hZ hP
        have hCJ := hC.sc hF (Or.inr rfl)
        refine P_iload_n (pc := 65) dX11_watch_65 rfl ?_
        refine P_aload_n (pc := 66) dX11_watch_66 rfl ?_
        refine P_getr (pc := 67) 11 2 dX11_watch_67 fl_X11_26 sh_0 fr_11_2 F_0_2 ?_
        refine P_getr (pc := 70) 8 0 dX11_watch_70 fl_X11_125 sh_36 fr_8_0 F_36_0 ?_
        refine P_geti (pc := 73) 6 0 (x := nI (s 111 0)) dX11_watch_73 fl_X11_143 sh_37 fi_6_0 (hCJ.st.1) ?_
        refine P_icmp_geN (pc := 76) (tgt := 99) dX11_watch_76 (by decide) (by omega) (by omega) (fun h76 => ?_) (fun h76 => ?_)
        · refine P_aload_n (pc := 99) dX11_watch_99 rfl ?_
          refine P_getr (pc := 100) 11 9 dX11_watch_100 fl_X11_71 sh_0 fr_11_9 F_0_9 ?_
          refine P_iload_n (pc := 103) dX11_watch_103 rfl ?_
          obtain ⟨_, _, _, ka, rfl, rfl, rfl⟩ := c_answer (l := l) (D := D) (tw := 36) (I := J) (pk := zPkM (fun c => nI (zWa s c)) c) hP (x := j) (by omega)
          refine P_callV (pc := 104) (S := []) (As := [_]) ka dX11_watch_104 ok_X1_answer ml_X11_247 iv_X1_answer ⟨by decide, by decide⟩ (zret_i _) rfl ⟨rfl, by decide⟩ sh_97 ⟨by decide, rfl⟩ (Nat.le_of_ble_eq_true rfl) ?_
          refine P_iret (pc := 107) dX11_watch_107 ?_
          have hc2 : c = s 111 0 := by omega
          subst hc2
          exact ⟨by unfold aWatch; rw [if_pos h5, nI_clamp (by omega)], rfl, hF⟩
        · refine P_aload_n (pc := 79) dX11_watch_79 rfl ?_
          refine P_getr (pc := 80) 11 9 dX11_watch_80 fl_X11_71 sh_0 fr_11_9 F_0_9 ?_
          refine P_iload_n (pc := 83) dX11_watch_83 rfl ?_
          refine P_aload_n (pc := 84) dX11_watch_84 rfl ?_
          refine P_getr (pc := 85) 11 11 dX11_watch_85 fl_X11_80 sh_0 fr_11_11 F_0_11 ?_
          refine P_iload_n (pc := 88) dX11_watch_88 rfl ?_
          refine P_iald (pc := 89) (c) (x := (fun c => nI (zWa s c)) c) dX11_watch_89 sh_107 rfl (by omega) (by decide) (hZ c (by omega)) ?_
          obtain ⟨_, Q, _, kq, rfl, rfl, hQ1, hQ2⟩ := c_offerMost (l := l) (D := D) (tw := 36) (I := J) (pk := zPkM (fun c => nI (zWa s c)) c) hP (fun k w e => by have := (zPkM_lt e).1; omega) (q := c) (u := (fun c => nI (zWa s c)) c)
          refine P_callV (pc := 90) (S := []) (As := [_, _]) kq dX11_watch_90 ok_X1_offerMost ml_X11_268 iv_X1_offerMost ⟨by decide, by decide⟩ zret_v rfl ⟨rfl, by decide⟩ sh_97 ⟨by decide, rfl⟩ (Nat.le_of_ble_eq_true rfl) ?_
          refine P_iincN (pc := 93) (c := 1) dX11_watch_93 rfl (by decide) (by decide) rfl ?_
          refine P_goto (pc := 96) (tgt := 65) dX11_watch_96 (by decide) ?_
          exact ih (c + 1) Q (by omega) (by omega) (hF.trans hQ1.sc) (fun x hx => (congrFun (hQ1 107 (by decide)) x).trans (hZ x hx)) hQ2
    have loop1 : ∀ (d : Nat) (i : Nat) (J : AI), s 116 0 - i < d → i ≤ s 116 0 → zSc 36 I J → (∀ x, x < 8 → J 107 x = nI (zSum (zTlW s 0 x) i)) → ZP l D zm_X11_watch 20 [some (.ref 0), some (.int (nI j)), some (.int (nI i))] [] J (zF 36) (fun v J G => v = some (aWatch s (nI j)) ∧ G = zF 36 ∧ zSc 36 I J) := by
      intro d
      induction d with
      | zero =>
        intro i J hd
        exact absurd hd (by omega)
      | succ d ih =>
        intro i J hd hi hF hZ
        have hCJ := hC.sc hF (Or.inr rfl)
        refine P_iload_n (pc := 20) dX11_watch_20 rfl ?_
        refine P_aload_n (pc := 21) dX11_watch_21 rfl ?_
        refine P_getr (pc := 22) 11 2 dX11_watch_22 fl_X11_26 sh_0 fr_11_2 F_0_2 ?_
        refine P_getr (pc := 25) 8 2 dX11_watch_25 fl_X11_116 sh_36 fr_8_2 F_36_2 ?_
        refine P_geti (pc := 28) 10 4 (x := nI (s 116 0)) dX11_watch_28 fl_X11_120 sh_62 fi_10_4 (hCJ.wk.1) ?_
        refine P_icmp_geN (pc := 31) (tgt := 56) dX11_watch_31 (by decide) (by omega) (by omega) (fun h31 => ?_) (fun h31 => ?_)
        · refine P_aload_n (pc := 56) dX11_watch_56 rfl ?_
          refine P_getr (pc := 57) 11 9 dX11_watch_57 fl_X11_71 sh_0 fr_11_9 F_0_9 ?_
          obtain ⟨_, K0, _, kc, rfl, rfl, hk1, hk2⟩ := c_pclear (l := l) (D := D) (tw := 36) (I := J)
          refine P_callV (pc := 60) (S := []) (As := []) kc dX11_watch_60 ok_X1_clear ml_X11_235 iv_X1_clear ⟨by decide, by decide⟩ zret_v rfl ⟨rfl, by decide⟩ sh_97 ⟨by decide, rfl⟩ (Nat.le_of_ble_eq_true rfl) ?_
          refine P_iconst (pc := 63) (x := nI 0) dX11_watch_63 (by decide) ?_
          refine P_istore_n (pc := 64) dX11_watch_64 (by decide) rfl ?_
          have hi2 : i = s 116 0 := by omega
          subst hi2
          exact loop2 (s 111 0 + 1) 0 K0 (by omega) (by omega) (hF.trans hk1.sc) (fun x hx => (congrFun (hk1 107 (by decide)) x).trans (hZ x hx)) hk2
        · refine P_aload_n (pc := 34) dX11_watch_34 rfl ?_
          refine P_iload_n (pc := 35) dX11_watch_35 rfl ?_
          obtain ⟨_, K, _, ks, rfl, rfl, hK⟩ := c_send_36 (l := l) (D := D) hCJ hR (i := i) (by omega)
          have hTr := hK.trS hR.1.1 hR.1.2.2.1.2.1 (by have := (hCJ.wk.2.2 i (by omega)).2.2.1; omega)
          refine P_callV (pc := 36) (S := []) (As := [_]) ks dX11_watch_36 ok_X11_send ml_X11_184 iv_X11_send ⟨by decide, by decide⟩ zret_v rfl ⟨rfl, by decide⟩ sh_0 ⟨by decide, rfl⟩ (Nat.le_of_ble_eq_true rfl) ?_
          refine P_aload_n (pc := 39) dX11_watch_39 rfl ?_
          refine P_getr (pc := 40) 11 4 dX11_watch_40 fl_X11_36 sh_0 fr_11_4 F_0_4 ?_
          refine P_aload_n (pc := 43) dX11_watch_43 rfl ?_
          refine P_getr (pc := 44) 11 11 dX11_watch_44 fl_X11_80 sh_0 fr_11_11 F_0_11 ?_
          obtain ⟨_, Q, _, kq, rfl, rfl, hQ1, hQ2⟩ := c_tallyWrong (l := l) (D := D) (tw := 36) (I := K) (T := zTw s 0 i) hTr
          refine P_callV (pc := 47) (S := []) (As := [_]) kq dX11_watch_47 ok_X9_tallyWrong ml_X11_264 iv_X9_tallyWrong ⟨by decide, by decide⟩ zret_v rfl ⟨rfl, by decide⟩ sh_67 ⟨by decide, rfl⟩ (Nat.le_of_ble_eq_true rfl) ?_
          refine P_iincN (pc := 50) (c := 1) dX11_watch_50 rfl (by decide) (by decide) rfl ?_
          refine P_goto (pc := 53) (tgt := 20) dX11_watch_53 (by decide) ?_
          exact ih (i + 1) Q (by omega) (by omega) ((hF.trans hK.1.sc).trans (fun a ha => hQ1 a (by omega))) (fun x hx => by rw [hQ2, hK.1 107 (by decide) (by decide) (by decide), hZ x hx, nI_add]; rfl)
    exact loop1 (s 116 0 + 1) 0 K1 (by omega) (by omega) (fun a ha => hf1 a (by omega)) (fun x hx => hf2 x hx)
  · refine P_iconst (pc := 8) (x := (-1)) dX11_watch_8 (by decide) ?_
    exact P_iret (pc := 9) dX11_watch_9 (⟨by unfold aWatch; rw [if_neg (by intro z; simp_all)], rfl, zSc.rf⟩)
set_option maxRecDepth 20000 in
theorem c_kinds11_36 {l : Launch} {D : va_G} {I : AI} {s : Nat → Nat → Nat} (hC : CR 36 s I) (hR : RInv s) {x : Int32} : ZP l D zm_X11_kinds 0 (zent 5 [.ref 0, .int x]) [] I (zF 36) (fun v J G => v = some (aKinds s x) ∧ G = zF 36 ∧ zSc 36 I J) := by
  have hB1 := hC.st.2.1
  have hB2 := hC.wk.2.1
  have hB3 := hC.sg.2.1
  show ZP _ _ _ _ [some _, some _, none, none, none] _ _ _ _
  refine P_aload_n (pc := 0) dX11_kinds_0 rfl ?_
  refine P_iload_n (pc := 1) dX11_kinds_1 rfl ?_
  obtain ⟨_, _, _, kw1, rfl, rfl, rfl⟩ := c_isWalker11_36 (l := l) (D := D) (I := I) (x := x) (n := s 116 0) hC.wk.1 (by omega)
  refine P_callV (pc := 2) (S := []) (As := [_]) kw1 dX11_kinds_2 ok_X11_isWalker ml_X11_167 iv_X11_isWalker ⟨by decide, by decide⟩ (zret_b (zix x (s 116 0))) rfl ⟨rfl, by decide⟩ sh_0 ⟨by decide, rfl⟩ (Nat.le_of_ble_eq_true rfl) ?_
  refine P_if_neB (pc := 5) (tgt := 10) dX11_kinds_5 (by decide) (fun h5 => ?_) (fun h5 => ?_)
  · obtain ⟨i, hl_i, rfl⟩ := zix_t h5 (by omega)
    refine P_aload_n (pc := 10) dX11_kinds_10 rfl ?_
    refine P_getr (pc := 11) 11 2 dX11_kinds_11 fl_X11_26 sh_0 fr_11_2 F_0_2 ?_
    refine P_getr (pc := 14) 8 2 dX11_kinds_14 fl_X11_116 sh_36 fr_8_2 F_36_2 ?_
    refine P_astore_n (pc := 17) dX11_kinds_17 (by decide) rfl ?_
    refine P_iconst (pc := 18) (x := nI 0) dX11_kinds_18 (by decide) ?_
    refine P_istore_n (pc := 19) dX11_kinds_19 (by decide) rfl ?_
    refine P_iconst (pc := 20) (x := nI 0) dX11_kinds_20 (by decide) ?_
    refine P_istore (pc := 21) dX11_kinds_21 (by decide) rfl ?_
    have loop : ∀ (d : Nat) (kd : Nat) (J : AI), 4 - kd < d → kd ≤ 4 → zSc 36 I J → ZP l D zm_X11_kinds 23 [some (.ref 0), some (.int (nI i)), some (.ref 62), some (.int (zBits (fun kd => zFit s i (zTrS s 0 kd (s 118 i) (s 119 i) (s 119 i)) (s 109 33)) kd)), some (.int (nI kd))] [] J (zF 36) (fun v J G => v = some (aKinds s (nI i)) ∧ G = zF 36 ∧ zSc 36 I J) := by
      intro d
      induction d with
      | zero =>
        intro kd J hd
        exact absurd hd (by omega)
      | succ d ih =>
        intro kd J hd hkd hF
        have hCJ := hC.sc hF (Or.inr rfl)
        have hb := hC.wk.2.2 i (by omega)
        refine P_iload (pc := 23) dX11_kinds_23 rfl ?_
        refine P_iconst (pc := 25) (x := nI 4) dX11_kinds_25 (by decide) ?_
        refine P_icmp_geN (pc := 26) (tgt := 95) dX11_kinds_26 (by decide) (by omega) (by omega) (fun h26 => ?_) (fun h26 => ?_)
        · refine P_iload_n (pc := 95) dX11_kinds_95 rfl ?_
          refine P_iret (pc := 96) dX11_kinds_96 ?_
          have hk2 : kd = 4 := by omega
          subst hk2
          exact ⟨by unfold aKinds; rw [if_pos h5, nI_clamp (by omega)], rfl, hF⟩
        · refine P_aload_n (pc := 29) dX11_kinds_29 rfl ?_
          refine P_getr (pc := 30) 11 4 dX11_kinds_30 fl_X11_36 sh_0 fr_11_4 F_0_4 ?_
          refine P_aload_n (pc := 33) dX11_kinds_33 rfl ?_
          refine P_getr (pc := 34) 11 2 dX11_kinds_34 fl_X11_26 sh_0 fr_11_2 F_0_2 ?_
          refine P_aload_n (pc := 37) dX11_kinds_37 rfl ?_
          refine P_getr (pc := 38) 11 2 dX11_kinds_38 fl_X11_26 sh_0 fr_11_2 F_0_2 ?_
          refine P_getr (pc := 41) 8 1 dX11_kinds_41 fl_X11_156 sh_36 fr_8_1 F_36_1 ?_
          refine P_iload (pc := 44) dX11_kinds_44 rfl ?_
          refine P_aload_n (pc := 46) dX11_kinds_46 rfl ?_
          refine P_getr (pc := 47) 10 1 dX11_kinds_47 fl_X11_173 sh_62 fr_10_1 F_62_1 ?_
          refine P_iload_n (pc := 50) dX11_kinds_50 rfl ?_
          refine P_iald (pc := 51) (i) (x := nI (s 118 i)) dX11_kinds_51 sh_64 rfl (by omega) (by decide) ((hCJ.wk.2.2 _ (by omega)).1.2.1) ?_
          refine P_aload_n (pc := 52) dX11_kinds_52 rfl ?_
          refine P_getr (pc := 53) 10 2 dX11_kinds_53 fl_X11_176 sh_62 fr_10_2 F_62_2 ?_
          refine P_iload_n (pc := 56) dX11_kinds_56 rfl ?_
          refine P_iald (pc := 57) (i) (x := nI (s 119 i)) dX11_kinds_57 sh_65 rfl (by omega) (by decide) ((hCJ.wk.2.2 _ (by omega)).1.2.2.1) ?_
          refine P_aload_n (pc := 58) dX11_kinds_58 rfl ?_
          refine P_getr (pc := 59) 10 3 dX11_kinds_59 fl_X11_177 sh_62 fr_10_3 F_62_3 ?_
          refine P_iload_n (pc := 62) dX11_kinds_62 rfl ?_
          refine P_iald (pc := 63) (i) (x := nI (s 122 (28 + i))) dX11_kinds_63 sh_66 rfl (by omega) (by decide) ((hCJ.wk.2.2 _ (by omega)).1.2.2.2) ?_
          obtain ⟨_, K, _, km, rfl, rfl, hK0⟩ := c_make_36_58 (l := l) (D := D) (tw := 36) (I := J) hCJ.st hCJ.sg hCJ.rt (kd := kd) (fm := s 118 i) (a := s 119 i) (to := s 122 (28 + i)) hR.1.2.2.2.2.2 hR.1.1.2.2.1 (by omega) hb.2.2.1 hb.2.2.2.1 hb.2.2.2.2
          have hK : zMk (zTrS s 0 (kd) (s 118 i) (s 119 i) (s 122 (28 + i))) (s 119 i) J K := hK0
          refine P_callV (pc := 64) (S := []) (As := [_, _, _, _, _, _]) km dX11_kinds_64 ok_X9_make ml_X11_254 iv_X9_make ⟨by decide, by decide⟩ zret_v rfl ⟨rfl, by decide⟩ sh_67 ⟨by decide, rfl⟩ (Nat.le_of_ble_eq_true rfl) ?_
          refine P_aload_n (pc := 67) dX11_kinds_67 rfl ?_
          refine P_getr (pc := 68) 11 8 dX11_kinds_68 fl_X11_64 sh_0 fr_11_8 F_0_8 ?_
          refine P_iload_n (pc := 71) dX11_kinds_71 rfl ?_
          refine P_aload_n (pc := 72) dX11_kinds_72 rfl ?_
          refine P_getr (pc := 73) 11 4 dX11_kinds_73 fl_X11_36 sh_0 fr_11_4 F_0_4 ?_
          have hTr := hK.trS hR.1.1 hR.1.2.2.1.2.1 hb.2.2.1
          obtain ⟨_, _, _, kf, rfl, rfl, rfl⟩ := c_fit (l := l) (D := D) (tw := 36) (I := K) (s := s) (hCJ.se.eq (fun a h1 h2 => hK.1 a (by omega) (by omega) (by omega))) (T := zTrS s 0 kd (s 118 i) (s 119 i) (s 122 (28 + i))) hTr (i := i) (by omega)
          refine P_callV (pc := 76) (S := []) (As := [_, _]) kf dX11_kinds_76 ok_X4_fit ml_X11_279 iv_X4_fit ⟨by decide, by decide⟩ (zret_b (zFit s i (zTrS s 0 kd (s 118 i) (s 119 i) (s 122 (28 + i))) (s 109 33))) rfl ⟨rfl, by decide⟩ sh_93 ⟨by decide, rfl⟩ (Nat.le_of_ble_eq_true rfl) ?_
          refine P_if_eqB (pc := 79) (tgt := 89) dX11_kinds_79 (by decide) (fun h79 => ?_) (fun h79 => ?_)
          · refine P_iincN (pc := 89) (c := 1) dX11_kinds_89 rfl (by decide) (by decide) rfl ?_
            refine P_goto (pc := 92) (tgt := 23) dX11_kinds_92 (by decide) ?_
            have h9 := ih (kd + 1) K (by omega) (by omega) (hF.trans hK.1.sc)
            have hz : zBits (fun kd => zFit s i (zTrS s 0 kd (s 118 i) (s 119 i) (s 119 i)) (s 109 33)) (kd + 1) = zBits (fun kd => zFit s i (zTrS s 0 kd (s 118 i) (s 119 i) (s 119 i)) (s 109 33)) kd ||| (if (fun kd => zFit s i (zTrS s 0 kd (s 118 i) (s 119 i) (s 119 i)) (s 109 33)) kd = true then nI 1 <<< (nI kd &&& 31) else nI 0) := rfl
            have hl : (fun kd => zFit s i (zTrS s 0 kd (s 118 i) (s 119 i) (s 119 i)) (s 109 33)) kd = zFit s i (zTrS s 0 kd (s 118 i) (s 119 i) (s 122 (28 + i))) (s 109 33) := zFit_to (fun k => zTrS_to k) _
            rw [hz, hl, h79] at h9
            rw [if_neg (by decide), nI_0, Int32.or_zero] at h9
            exact h9
          · refine P_iload_n (pc := 82) dX11_kinds_82 rfl ?_
            refine P_iconst (pc := 83) (x := nI 1) dX11_kinds_83 (by decide) ?_
            refine P_iload (pc := 84) dX11_kinds_84 rfl ?_
            refine P_ishl (pc := 86) dX11_kinds_86 ?_
            refine P_ior (pc := 87) dX11_kinds_87 ?_
            refine P_istore_n (pc := 88) dX11_kinds_88 (by decide) rfl ?_
            refine P_iincN (pc := 89) (c := 1) dX11_kinds_89 rfl (by decide) (by decide) rfl ?_
            refine P_goto (pc := 92) (tgt := 23) dX11_kinds_92 (by decide) ?_
            have h9 := ih (kd + 1) K (by omega) (by omega) (hF.trans hK.1.sc)
            have hz : zBits (fun kd => zFit s i (zTrS s 0 kd (s 118 i) (s 119 i) (s 119 i)) (s 109 33)) (kd + 1) = zBits (fun kd => zFit s i (zTrS s 0 kd (s 118 i) (s 119 i) (s 119 i)) (s 109 33)) kd ||| (if (fun kd => zFit s i (zTrS s 0 kd (s 118 i) (s 119 i) (s 119 i)) (s 109 33)) kd = true then nI 1 <<< (nI kd &&& 31) else nI 0) := rfl
            have hl : (fun kd => zFit s i (zTrS s 0 kd (s 118 i) (s 119 i) (s 119 i)) (s 109 33)) kd = zFit s i (zTrS s 0 kd (s 118 i) (s 119 i) (s 122 (28 + i))) (s 109 33) := zFit_to (fun k => zTrS_to k) _
            rw [hz, hl, h79] at h9
            rw [if_pos rfl] at h9
            exact h9
    exact loop 5 0 I (by omega) (by omega) zSc.rf
  · refine P_iconst (pc := 8) (x := (-1)) dX11_kinds_8 (by decide) ?_
    exact P_iret (pc := 9) dX11_kinds_9 (⟨by unfold aKinds; rw [if_neg (by intro z; simp_all)], rfl, zSc.rf⟩)
set_option maxRecDepth 20000 in
theorem c_missed11_36 {l : Launch} {D : va_G} {I : AI} {s : Nat → Nat → Nat} (hC : CR 36 s I) (hR : RInv s) {x : Int32} : ZP l D zm_X11_missed 0 (zent 4 [.ref 0, .int x]) [] I (zF 36) (fun v J G => v = some (aMissed s x) ∧ G = zF 36 ∧ zSc 36 I J) := by
  have hB1 := hC.st.2.1
  have hB2 := hC.wk.2.1
  have hB3 := hC.sg.2.1
  have hB4 := hC.sr.2.2.2.1
  show ZP _ _ _ _ [some _, some _, none, none] _ _ _ _
  refine P_iload_n (pc := 0) dX11_missed_0 rfl ?_
  refine P_iconst (pc := 1) (x := nI 2) dX11_missed_1 (by decide) ?_
  obtain ⟨_, _, _, kw1, rfl, rfl, rfl⟩ := c_isWithin (l := l) (D := D) (tw := 36) (I := I) (x := x) (n := 2) (by omega)
  refine P_callS (pc := 2) (S := []) (As := [_, _]) kw1 dX11_missed_2 ok_X11_isWithin ml_X11_180 is_X11_isWithin ⟨by decide, by decide⟩ (zret_b (zix x 2)) rfl ⟨rfl, by decide⟩ (Nat.le_of_ble_eq_true rfl) ?_
  refine P_if_neB (pc := 5) (tgt := 10) dX11_missed_5 (by decide) (fun h5 => ?_) (fun h5 => ?_)
  · obtain ⟨j, hl_j, rfl⟩ := zix_t h5 (by omega)
    refine P_aload_n (pc := 10) dX11_missed_10 rfl ?_
    refine P_getr (pc := 11) 11 2 dX11_missed_11 fl_X11_26 sh_0 fr_11_2 F_0_2 ?_
    refine P_aload_n (pc := 14) dX11_missed_14 rfl ?_
    refine P_getr (pc := 15) 11 2 dX11_missed_15 fl_X11_26 sh_0 fr_11_2 F_0_2 ?_
    refine P_getr (pc := 18) 8 0 dX11_missed_18 fl_X11_125 sh_36 fr_8_0 F_36_0 ?_
    refine P_getr (pc := 21) 6 5 dX11_missed_21 fl_X11_129 sh_37 fr_6_5 F_37_5 ?_
    obtain ⟨_, _, _, kn, rfl, rfl, rfl⟩ := c_minutes_36_49 (l := l) (D := D) (tw := 36) (I := I) (f := fun a b => s 124 (8 * a + b)) hC.wk hC.st.2.2.2.1
    refine P_callV (pc := 24) (S := []) (As := [_]) kn dX11_missed_24 ok_X8_minutesToAims ml_X11_271 iv_X8_minutesToAims ⟨by decide, by decide⟩ (zret_i _) rfl ⟨rfl, by decide⟩ sh_36 ⟨by decide, rfl⟩ (Nat.le_of_ble_eq_true rfl) ?_
    refine P_istore_n (pc := 27) dX11_missed_27 (by decide) rfl ?_
    refine P_aload_n (pc := 28) dX11_missed_28 rfl ?_
    refine P_getr (pc := 29) 11 9 dX11_missed_29 fl_X11_71 sh_0 fr_11_9 F_0_9 ?_
    obtain ⟨_, K0, _, kc, rfl, rfl, hk1, hk2⟩ := c_pclear (l := l) (D := D) (tw := 36) (I := I)
    refine P_callV (pc := 32) (S := []) (As := []) kc dX11_missed_32 ok_X1_clear ml_X11_235 iv_X1_clear ⟨by decide, by decide⟩ zret_v rfl ⟨rfl, by decide⟩ sh_97 ⟨by decide, rfl⟩ (Nat.le_of_ble_eq_true rfl) ?_
    refine P_iconst (pc := 35) (x := nI 0) dX11_missed_35 (by decide) ?_
    refine P_istore_n (pc := 36) dX11_missed_36 (by decide) rfl ?_
    have loop : ∀ (d : Nat) (k : Nat) (J : AI), s 112 0 - k < d → k ≤ s 112 0 → zSc 36 I J → zPic J (zPkM (fun k => zMw (zFa s (some k)) (zFa s none) (s 116 0)) k) → ZP l D zm_X11_missed 37 [some (.ref 0), some (.int (nI j)), some (.int (zMa (fun i => s 124 (8 * s 118 i + s 119 i)) (s 116 0))), some (.int (nI k))] [] J (zF 36) (fun v J G => v = some (aMissed s (nI j)) ∧ G = zF 36 ∧ zSc 36 I J) := by
      intro d
      induction d with
      | zero =>
        intro k J hd
        exact absurd hd (by omega)
      | succ d ih =>
        intro k J hd hk hF hP
        have hCJ := hC.sc hF (Or.inr rfl)
        refine P_iload_n (pc := 37) dX11_missed_37 rfl ?_
        refine P_aload_n (pc := 38) dX11_missed_38 rfl ?_
        refine P_getr (pc := 39) 11 2 dX11_missed_39 fl_X11_26 sh_0 fr_11_2 F_0_2 ?_
        refine P_getr (pc := 42) 8 0 dX11_missed_42 fl_X11_125 sh_36 fr_8_0 F_36_0 ?_
        refine P_geti (pc := 45) 6 1 (x := nI (s 112 0)) dX11_missed_45 fl_X11_275 sh_37 fi_6_1 (hCJ.sr.2.2.1) ?_
        refine P_icmp_geN (pc := 48) (tgt := 93) dX11_missed_48 (by decide) (by omega) (by omega) (fun h48 => ?_) (fun h48 => ?_)
        · refine P_aload_n (pc := 93) dX11_missed_93 rfl ?_
          refine P_getr (pc := 94) 11 9 dX11_missed_94 fl_X11_71 sh_0 fr_11_9 F_0_9 ?_
          refine P_iload_n (pc := 97) dX11_missed_97 rfl ?_
          obtain ⟨_, _, _, ka, rfl, rfl, rfl⟩ := c_answer (l := l) (D := D) (tw := 36) (I := J) (pk := zPkM (fun k => zMw (zFa s (some k)) (zFa s none) (s 116 0)) k) hP (x := j) (by omega)
          refine P_callV (pc := 98) (S := []) (As := [_]) ka dX11_missed_98 ok_X1_answer ml_X11_247 iv_X1_answer ⟨by decide, by decide⟩ (zret_i _) rfl ⟨rfl, by decide⟩ sh_97 ⟨by decide, rfl⟩ (Nat.le_of_ble_eq_true rfl) ?_
          refine P_iret (pc := 101) dX11_missed_101 ?_
          have hk2 : k = s 112 0 := by omega
          subst hk2
          exact ⟨by unfold aMissed; rw [if_pos h5, nI_clamp (by omega)]; rfl, rfl, hF⟩
        · refine P_aload_n (pc := 51) dX11_missed_51 rfl ?_
          refine P_getr (pc := 52) 11 2 dX11_missed_52 fl_X11_26 sh_0 fr_11_2 F_0_2 ?_
          refine P_getr (pc := 55) 8 0 dX11_missed_55 fl_X11_125 sh_36 fr_8_0 F_36_0 ?_
          refine P_aload_n (pc := 58) dX11_missed_58 rfl ?_
          refine P_getr (pc := 59) 11 10 dX11_missed_59 fl_X11_77 sh_0 fr_11_10 F_0_10 ?_
          refine P_iload_n (pc := 62) dX11_missed_62 rfl ?_
          obtain ⟨_, K, _, km, rfl, rfl, hK1, hK2⟩ := c_measure_36_98 (l := l) (D := D) (tw := 36) (I := J) hCJ.sr (w := some k) (fun q e => by cases e; omega)
          refine P_callV (pc := 63) (S := []) (As := [_, _]) km dX11_missed_63 ok_X6_measure ml_X11_134 iv_X6_measure ⟨by decide, by decide⟩ zret_v rfl ⟨rfl, by decide⟩ sh_37 ⟨by decide, rfl⟩ (Nat.le_of_ble_eq_true rfl) ?_
          refine P_aload_n (pc := 66) dX11_missed_66 rfl ?_
          refine P_getr (pc := 67) 11 9 dX11_missed_67 fl_X11_71 sh_0 fr_11_9 F_0_9 ?_
          refine P_iload_n (pc := 70) dX11_missed_70 rfl ?_
          refine P_aload_n (pc := 71) dX11_missed_71 rfl ?_
          refine P_getr (pc := 72) 11 2 dX11_missed_72 fl_X11_26 sh_0 fr_11_2 F_0_2 ?_
          refine P_aload_n (pc := 75) dX11_missed_75 rfl ?_
          refine P_getr (pc := 76) 11 10 dX11_missed_76 fl_X11_77 sh_0 fr_11_10 F_0_10 ?_
          obtain ⟨_, _, _, kn, rfl, rfl, rfl⟩ := c_minutes_36_98 (l := l) (D := D) (tw := 36) (I := K) (f := fun a b => zFar (nrS s (some k)) (8 * a + b)) (hCJ.sc hK1.sc (Or.inr rfl)).wk hK2
          refine P_callV (pc := 79) (S := [_, _]) (As := [_]) kn dX11_missed_79 ok_X8_minutesToAims ml_X11_271 iv_X8_minutesToAims ⟨by decide, by decide⟩ (zret_i _) rfl ⟨rfl, by decide⟩ sh_36 ⟨by decide, rfl⟩ (Nat.le_of_ble_eq_true rfl) ?_
          refine P_iload_n (pc := 82) dX11_missed_82 rfl ?_
          refine P_isub (pc := 83) dX11_missed_83 ?_
          have hu : zMa (fun i => zFar (nrS s (some k)) (8 * s 118 i + s 119 i)) (s 116 0) - zMa (fun i => s 124 (8 * s 118 i + s 119 i)) (s 116 0) = (fun k => zMw (zFa s (some k)) (zFa s none) (s 116 0)) k := by
            rw [zMa_sub]
            exact zMw_c (fun i hi => ⟨rfl, (hR.1.2.2.2.2.1 _ (by have := hC.wk.2.2 i hi; omega)).2⟩)
          rw [hu]
          obtain ⟨_, Q, _, kq, rfl, rfl, hQ1, hQ2⟩ := c_offerMost (l := l) (D := D) (tw := 36) (I := K) (pk := zPkM (fun k => zMw (zFa s (some k)) (zFa s none) (s 116 0)) k) (hP.eq (hK1 97 (by omega))) (fun k w e => by have := (zPkM_lt e).1; omega) (q := k) (u := (fun k => zMw (zFa s (some k)) (zFa s none) (s 116 0)) k)
          refine P_callV (pc := 84) (S := []) (As := [_, _]) kq dX11_missed_84 ok_X1_offerMost ml_X11_268 iv_X1_offerMost ⟨by decide, by decide⟩ zret_v rfl ⟨rfl, by decide⟩ sh_97 ⟨by decide, rfl⟩ (Nat.le_of_ble_eq_true rfl) ?_
          refine P_iincN (pc := 87) (c := 1) dX11_missed_87 rfl (by decide) (by decide) rfl ?_
          refine P_goto (pc := 90) (tgt := 37) dX11_missed_90 (by decide) ?_
          exact ih (k + 1) Q (by omega) (by omega) ((hF.trans hK1.sc).trans hQ1.sc) hQ2
    exact loop (s 112 0 + 1) 0 K0 (by omega) (by omega) hk1.sc hk2
  · refine P_iconst (pc := 8) (x := (-1)) dX11_missed_8 (by decide) ?_
    exact P_iret (pc := 9) dX11_missed_9 (⟨by unfold aMissed; rw [if_neg (by intro z; simp_all)], rfl, zSc.rf⟩)
