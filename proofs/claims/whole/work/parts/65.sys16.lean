set_option maxRecDepth 20000 in
theorem c_mend11_5 {l : Launch} {D : va_G} {I : AI} {s : Nat → Nat → Nat} (hC : CR 5 s I) (hR : RInv s) {x : Int32} : ZP l D zm_X11_mend 0 (zent 3 [.ref 0, .int x]) [] I (zF 5) (fun v J G => v = some (aMend s x) ∧ G = zF 5 ∧ zSc 5 I J) := by
  have hB1 := hC.st.2.1
  have hB2 := hC.wk.2.1
  have hB3 := hC.sg.2.1
  have hm8 := hR.1.2.2.1.1
  show ZP _ _ _ _ [some _, some _, none] _ _ _ _
  refine P_iload_n (pc := 0) dX11_mend_0 rfl ?_
  refine P_iconst (pc := 1) (x := nI 2) dX11_mend_1 (by decide) ?_
  obtain ⟨_, _, _, kw1, rfl, rfl, rfl⟩ := c_isWithin (l := l) (D := D) (tw := 5) (I := I) (x := x) (n := 2) (by omega)
  refine P_callS (pc := 2) (S := []) (As := [_, _]) kw1 dX11_mend_2 ok_X11_isWithin ml_X11_180 is_X11_isWithin ⟨by decide, by decide⟩ (zret_b (zix x 2)) rfl ⟨rfl, by decide⟩ (Nat.le_of_ble_eq_true rfl) ?_
  refine P_if_neB (pc := 5) (tgt := 10) dX11_mend_5 (by decide) (fun h5 => ?_) (fun h5 => ?_)
  · obtain ⟨j, hl_j, rfl⟩ := zix_t h5 (by omega)
    refine P_aload_n (pc := 10) dX11_mend_10 rfl ?_
    refine P_getr (pc := 11) 11 9 dX11_mend_11 fl_X11_71 sh_0 fr_11_9 F_0_9 ?_
    obtain ⟨_, K0, _, kc, rfl, rfl, hk1, hk2⟩ := c_pclear (l := l) (D := D) (tw := 5) (I := I)
    refine P_callV (pc := 14) (S := []) (As := []) kc dX11_mend_14 ok_X1_clear ml_X11_235 iv_X1_clear ⟨by decide, by decide⟩ zret_v rfl ⟨rfl, by decide⟩ sh_97 ⟨by decide, rfl⟩ (Nat.le_of_ble_eq_true rfl) ?_
    refine P_iconst (pc := 17) (x := nI 0) dX11_mend_17 (by decide) ?_
    refine P_istore_n (pc := 18) dX11_mend_18 (by decide) rfl ?_
    have loop : ∀ (d : Nat) (k : Nat) (J : AI), s 122 0 - k < d → k ≤ s 122 0 → zSc 5 I J → zPic J (zPkL (fun k => nI (taxAt (sT s (gCut s k)) 352)) k) → ZP l D zm_X11_mend 19 [some (.ref 0), some (.int (nI j)), some (.int (nI k))] [] J (zF 5) (fun v J G => v = some (aMend s (nI j)) ∧ G = zF 5 ∧ zSc 5 I J) := by
      intro d
      induction d with
      | zero =>
        intro k J hd
        exact absurd hd (by omega)
      | succ d ih =>
        intro k J hd hk hF hP
        have hCJ := hC.sc hF (Or.inl rfl)
        refine P_iload_n (pc := 19) dX11_mend_19 rfl ?_
        refine P_aload_n (pc := 20) dX11_mend_20 rfl ?_
        refine P_getr (pc := 21) 11 2 dX11_mend_21 fl_X11_26 sh_0 fr_11_2 F_0_2 ?_
        refine P_getr (pc := 24) 8 1 dX11_mend_24 fl_X11_156 sh_5 fr_8_1 F_5_1 ?_
        refine P_geti (pc := 27) 5 3 (x := nI (s 122 0)) dX11_mend_27 fl_X11_214 sh_27 fi_5_3 (hCJ.sg.1) ?_
        refine P_icmp_geN (pc := 30) (tgt := 77) dX11_mend_30 (by decide) (by omega) (by omega) (fun h30 => ?_) (fun h30 => ?_)
        · refine P_aload_n (pc := 77) dX11_mend_77 rfl ?_
          refine P_getr (pc := 78) 11 9 dX11_mend_78 fl_X11_71 sh_0 fr_11_9 F_0_9 ?_
          refine P_iload_n (pc := 81) dX11_mend_81 rfl ?_
          obtain ⟨_, _, _, ka, rfl, rfl, rfl⟩ := c_answer (l := l) (D := D) (tw := 5) (I := J) (pk := zPkL (fun k => nI (taxAt (sT s (gCut s k)) 352)) k) hP (x := j) (by omega)
          refine P_callV (pc := 82) (S := []) (As := [_]) ka dX11_mend_82 ok_X1_answer ml_X11_247 iv_X1_answer ⟨by decide, by decide⟩ (zret_i _) rfl ⟨rfl, by decide⟩ sh_97 ⟨by decide, rfl⟩ (Nat.le_of_ble_eq_true rfl) ?_
          refine P_iret (pc := 85) dX11_mend_85 ?_
          have hk2 : k = s 122 0 := by omega
          subst hk2
          exact ⟨by unfold aMend; rw [if_pos h5, nI_clamp (by omega)]; rfl, rfl, hF⟩
        · refine P_aload_n (pc := 33) dX11_mend_33 rfl ?_
          refine P_getr (pc := 34) 11 5 dX11_mend_34 fl_X11_43 sh_0 fr_11_5 F_0_5 ?_
          refine P_aload_n (pc := 37) dX11_mend_37 rfl ?_
          refine P_getr (pc := 38) 11 2 dX11_mend_38 fl_X11_26 sh_0 fr_11_2 F_0_2 ?_
          refine P_getr (pc := 41) 8 1 dX11_mend_41 fl_X11_156 sh_5 fr_8_1 F_5_1 ?_
          obtain ⟨_, K1, _, kc1, rfl, rfl, hc1, hc2⟩ := c_copyFrom_70_27 (l := l) (D := D) (tw := 5) (I := J) hCJ.sg
          refine P_callV (pc := 44) (S := []) (As := [_]) kc1 dX11_mend_44 ok_X5_copyFrom ml_X11_236 iv_X5_copyFrom ⟨by decide, by decide⟩ zret_v rfl ⟨rfl, by decide⟩ sh_70 ⟨by decide, rfl⟩ (Nat.le_of_ble_eq_true rfl) ?_
          refine P_aload_n (pc := 47) dX11_mend_47 rfl ?_
          refine P_getr (pc := 48) 11 5 dX11_mend_48 fl_X11_43 sh_0 fr_11_5 F_0_5 ?_
          refine P_iload_n (pc := 51) dX11_mend_51 rfl ?_
          obtain ⟨_, K2, _, kc2, rfl, rfl, hr1, hr2⟩ := c_remove_70 (l := l) (D := D) (tw := 5) (I := K1) hc2 (k := k) (by omega)
          have hS2 : zSc 5 J K2 := zSc.trans hc1.sc hr1.sc
          have hC2 := hCJ.sc hS2 (Or.inl rfl)
          refine P_callV (pc := 52) (S := []) (As := [_]) kc2 dX11_mend_52 ok_X5_remove ml_X11_223 iv_X5_remove ⟨by decide, by decide⟩ zret_v rfl ⟨rfl, by decide⟩ sh_70 ⟨by decide, rfl⟩ (Nat.le_of_ble_eq_true rfl) ?_
          refine P_aload_n (pc := 55) dX11_mend_55 rfl ?_
          refine P_getr (pc := 56) 11 9 dX11_mend_56 fl_X11_71 sh_0 fr_11_9 F_0_9 ?_
          refine P_iload_n (pc := 59) dX11_mend_59 rfl ?_
          refine P_aload_n (pc := 60) dX11_mend_60 rfl ?_
          refine P_aload_n (pc := 61) dX11_mend_61 rfl ?_
          refine P_getr (pc := 62) 11 5 dX11_mend_62 fl_X11_43 sh_0 fr_11_5 F_0_5 ?_
          obtain ⟨_, K, _, kt, rfl, rfl, hK⟩ := c_taxBy_5_70 (l := l) (D := D) (I := K2) hC2.st (tr_cut hm8 (by omega) hr2) (CWk.c hC2.wk (fun i hi => ⟨rfl, rfl, rfl, (gCut_t (by omega) hm8 : sT s (gCut s k) 122 (352 + 28 + i) = s 122 (28 + i))⟩)) hC2.rt hR.1.2.2.2.2.2 hR.1.1.2.2.1
          have hv : (nI (zSum (fun i => (zTrip (zNx (s 111 0) (s 123) (s 124) (fun c => zSign (sgC (sT s (gCut s k)) 352) (sgT (sT s (gCut s k)) 352) (sgN (sT s (gCut s k)) 352) c (s 119 i) (sT s (gCut s k) 122 352)) (s 117 i) (s 119 i)) (fun c n => zOnB (s 123) (s 124) c n (sT s (gCut s k) 122 (352 + 28 + i))) (s 123) (s 117 i) (s 120 0) (s 120 1) (s 120 2) (s 119 i) (s 118 i)).2.2.2.1) (s 116 0))) = (fun k => nI (taxAt (sT s (gCut s k)) 352)) k := rfl
          refine P_callV (pc := 65) (S := [_, _]) (As := [_]) kt dX11_mend_65 ok_X11_taxBy ml_X11_210 iv_X11_taxBy ⟨by decide, by decide⟩ (zret_i _) rfl ⟨rfl, by decide⟩ sh_0 ⟨by decide, rfl⟩ (Nat.le_of_ble_eq_true rfl) ?_
          obtain ⟨_, Q, _, kq, rfl, rfl, hQ1, hQ2⟩ := c_offerLeast (l := l) (D := D) (tw := 5) (I := K) (pk := zPkL (fun k => nI (taxAt (sT s (gCut s k)) 352)) k) (hP.eq ((hK 97 (by decide) (by decide) (by decide)).trans ((hr1 97 (by decide) (by decide) (by decide) (by decide)).trans (hc1 97 (by decide) (by decide) (by decide) (by decide))))) (fun k w e => by have := (zPkL_lt e).1; omega) (q := k) (u := (fun k => nI (taxAt (sT s (gCut s k)) 352)) k)
          refine P_callV (pc := 68) (S := []) (As := [_, _]) kq dX11_mend_68 ok_X1_offerLeast ml_X11_250 iv_X1_offerLeast ⟨by decide, by decide⟩ zret_v rfl ⟨rfl, by decide⟩ sh_97 ⟨by decide, rfl⟩ (Nat.le_of_ble_eq_true rfl) ?_
          refine P_iincN (pc := 71) (c := 1) dX11_mend_71 rfl (by decide) (by decide) rfl ?_
          refine P_goto (pc := 74) (tgt := 19) dX11_mend_74 (by decide) ?_
          exact ih (k + 1) Q (by omega) (by omega) (((hF.trans hS2).trans hK.sc).trans hQ1.sc) hQ2
    exact loop (s 122 0 + 1) 0 K0 (by omega) (by omega) hk1.sc hk2
  · refine P_iconst (pc := 8) (x := (-1)) dX11_mend_8 (by decide) ?_
    exact P_iret (pc := 9) dX11_mend_9 (⟨by unfold aMend; rw [if_neg (by intro z; simp_all)], rfl, zSc.rf⟩)
set_option maxRecDepth 20000 in
theorem c_taxOfSet_5 {l : Launch} {D : va_G} {I : AI} {q n : Nat} {f : Nat → Nat} (hq : q < 2 ^ 31) (hn : n ≤ 4) (hf : ∀ i, i < n → I 108 i = nI (f i)) : ZP l D zm_X11_taxOfSet 0 (zent 5 [.ref 0, .int (nI q), .int (nI n)]) [] I (zF 5) (fun v J G => v = some (nI (zSum (fun i => zbit q i * f i) n)) ∧ I = J ∧ G = zF 5) := by
  have loop : ∀ (d : Nat) (i : Nat), n - i < d → i ≤ n → ZP l D zm_X11_taxOfSet 5 [some (.ref 0), some (.int (nI q)), some (.int (nI n)), some (.int (nI (zSum (fun i => zbit q i * f i) i))), some (.int (nI i))] [] I (zF 5) (fun v J G => v = some (nI (zSum (fun i => zbit q i * f i) n)) ∧ I = J ∧ G = zF 5) := by
    intro d
    induction d with
    | zero =>
      intro i hd
      exact absurd hd (by omega)
    | succ d ih =>
      intro i hd hi
      refine P_iload (pc := 5) dX11_taxOfSet_5 rfl ?_
      refine P_iload_n (pc := 7) dX11_taxOfSet_7 rfl ?_
      refine P_icmp_geN (pc := 8) (tgt := 37) dX11_taxOfSet_8 (by decide) (by omega) (by omega) (fun h8 => ?_) (fun h8 => ?_)
      · refine P_iload_n (pc := 37) dX11_taxOfSet_37 rfl ?_
        refine P_iret (pc := 38) dX11_taxOfSet_38 ?_
        have hi2 : i = n := by omega
        subst hi2
        exact ⟨rfl, rfl, rfl⟩
      · refine P_iload_n (pc := 11) dX11_taxOfSet_11 rfl ?_
        refine P_iload (pc := 12) dX11_taxOfSet_12 rfl ?_
        refine P_ishr (pc := 14) dX11_taxOfSet_14 ?_
        refine P_iconst (pc := 15) (x := nI 1) dX11_taxOfSet_15 (by decide) ?_
        refine P_iand (pc := 16) dX11_taxOfSet_16 ?_
        rw [zbit_eq (by omega) (by omega)]
        have hb1 := zbit_le q i
        refine P_iconst (pc := 17) (x := nI 1) dX11_taxOfSet_17 (by decide) ?_
        refine P_icmp_neN (pc := 18) (tgt := 31) dX11_taxOfSet_18 (by decide) (by omega) (by omega) (fun h18 => ?_) (fun h18 => ?_)
        · refine P_iincN (pc := 31) (c := 1) dX11_taxOfSet_31 rfl (by decide) (by decide) rfl ?_
          refine P_goto (pc := 34) (tgt := 5) dX11_taxOfSet_34 (by decide) ?_
          have h9 := ih (i + 1) (by omega) (by omega)
          rw [zSum, show zbit q i = 0 by omega] at h9
          rw [Nat.zero_mul, Nat.add_zero] at h9
          exact h9
        · refine P_iload_n (pc := 21) dX11_taxOfSet_21 rfl ?_
          refine P_aload_n (pc := 22) dX11_taxOfSet_22 rfl ?_
          refine P_getr (pc := 23) 11 12 dX11_taxOfSet_23 fl_X11_84 sh_0 fr_11_12 F_0_12 ?_
          refine P_iload (pc := 26) dX11_taxOfSet_26 rfl ?_
          refine P_iald (pc := 28) (i) (x := nI (f i)) dX11_taxOfSet_28 sh_108 rfl (by omega) (by decide) (hf _ (by omega)) ?_
          refine P_iaddN (pc := 29) dX11_taxOfSet_29 ?_
          refine P_istore_n (pc := 30) dX11_taxOfSet_30 (by decide) rfl ?_
          refine P_iincN (pc := 31) (c := 1) dX11_taxOfSet_31 rfl (by decide) (by decide) rfl ?_
          refine P_goto (pc := 34) (tgt := 5) dX11_taxOfSet_34 (by decide) ?_
          have h9 := ih (i + 1) (by omega) (by omega)
          rw [zSum, show zbit q i = 1 by omega] at h9
          rw [Nat.one_mul] at h9
          exact h9
  show ZP _ _ _ _ [some _, some _, some _, none, none] _ _ _ _
  refine P_iconst (pc := 0) (x := nI 0) dX11_taxOfSet_0 (by decide) ?_
  refine P_istore_n (pc := 1) dX11_taxOfSet_1 (by decide) rfl ?_
  refine P_iconst (pc := 2) (x := nI 0) dX11_taxOfSet_2 (by decide) ?_
  refine P_istore (pc := 3) dX11_taxOfSet_3 (by decide) rfl ?_
  exact loop (n + 1) 0 (by omega) (by omega)
set_option maxRecDepth 20000 in
theorem c_paid11_5 {l : Launch} {D : va_G} {I : AI} {s : Nat → Nat → Nat} (hC : CR 5 s I) (hR : RInv s) {x y : Int32} : ZP l D zm_X11_paid 0 (zent 7 [.ref 0, .int x, .int y]) [] I (zF 5) (fun v J G => v = some (aPaid s x y) ∧ G = zF 5 ∧ zSc 5 I J) := by
  have hB1 := hC.st.2.1
  have hB2 := hC.wk.2.1
  have hB3 := hC.sg.2.1
  show ZP _ _ _ _ [some _, some _, some _, none, none, none, none] _ _ _ _
  refine P_iload_n (pc := 0) dX11_paid_0 rfl ?_
  refine P_sipush (pc := 1) (x := nI 1000) dX11_paid_1 (by decide) ?_
  obtain ⟨_, _, _, kw1, rfl, rfl, rfl⟩ := c_isWithin (l := l) (D := D) (tw := 5) (I := I) (x := x) (n := 1000) (by omega)
  refine P_callS (pc := 4) (S := []) (As := [_, _]) kw1 dX11_paid_4 ok_X11_isWithin ml_X11_180 is_X11_isWithin ⟨by decide, by decide⟩ (zret_b (zix x 1000)) rfl ⟨rfl, by decide⟩ (Nat.le_of_ble_eq_true rfl) ?_
  refine P_if_eqB (pc := 7) (tgt := 18) dX11_paid_7 (by decide) (fun h7 => ?_) (fun h7 => ?_)
  · refine P_iconst (pc := 18) (x := (-1)) dX11_paid_18 (by decide) ?_
    exact P_iret (pc := 19) dX11_paid_19 (⟨by unfold aPaid; rw [if_neg (by intro z; simp_all)], rfl, zSc.rf⟩)
  · obtain ⟨vv, hl_vv, rfl⟩ := zix_t h7 (by omega)
    refine P_iload_n (pc := 10) dX11_paid_10 rfl ?_
    refine P_iconst (pc := 11) (x := nI 2) dX11_paid_11 (by decide) ?_
    obtain ⟨_, _, _, kw2, rfl, rfl, rfl⟩ := c_isWithin (l := l) (D := D) (tw := 5) (I := I) (x := y) (n := 2) (by omega)
    refine P_callS (pc := 12) (S := []) (As := [_, _]) kw2 dX11_paid_12 ok_X11_isWithin ml_X11_180 is_X11_isWithin ⟨by decide, by decide⟩ (zret_b (zix y 2)) rfl ⟨rfl, by decide⟩ (Nat.le_of_ble_eq_true rfl) ?_
    refine P_if_neB (pc := 15) (tgt := 20) dX11_paid_15 (by decide) (fun h15 => ?_) (fun h15 => ?_)
    · obtain ⟨j, hl_j, rfl⟩ := zix_t h15 (by omega)
      refine P_aload_n (pc := 20) dX11_paid_20 rfl ?_
      refine P_getr (pc := 21) 11 2 dX11_paid_21 fl_X11_26 sh_0 fr_11_2 F_0_2 ?_
      refine P_getr (pc := 24) 8 2 dX11_paid_24 fl_X11_116 sh_5 fr_8_2 F_5_2 ?_
      refine P_geti (pc := 27) 10 4 (x := nI (s 116 0)) dX11_paid_27 fl_X11_120 sh_31 fi_10_4 (hC.wk.1) ?_
      refine P_istore_n (pc := 30) dX11_paid_30 (by decide) rfl ?_
      refine P_iconst (pc := 31) (x := nI 0) dX11_paid_31 (by decide) ?_
      refine P_istore (pc := 32) dX11_paid_32 (by decide) rfl ?_
      have hp2 : 2 ^ s 116 0 ≤ 2 ^ 4 := Nat.pow_le_pow_right (by omega) hB2
      have loop2 : ∀ (d : Nat) (q : Nat) (J : AI), 2 ^ s 116 0 - q < d → q ≤ 2 ^ s 116 0 → zSc 5 I J → (∀ i, i < s 116 0 → J 108 i = nI (zTxW s 0 i)) → ZP l D zm_X11_paid 76 [some (.ref 0), some (.int (nI vv)), some (.int (nI j)), some (.int (nI (s 116 0))), some (.int (nI (zCt (fun q => decide (zSum (fun i => zbit q i * zTxW s 0 i) (s 116 0) = vv)) q))), some (.int (zo (-4) (zLo (fun q => decide (zSum (fun i => zbit q i * zTxW s 0 i) (s 116 0) = vv)) q))), some (.int (nI q))] [] J (zF 5) (fun v J G => v = some (aPaid s (nI vv) (nI j)) ∧ G = zF 5 ∧ zSc 5 I J) := by
        intro d
        induction d with
        | zero =>
          intro q J hd
          exact absurd hd (by omega)
        | succ d ih =>
          intro q J hd hq hF hZ
          refine P_iload (pc := 76) dX11_paid_76 rfl ?_
          refine P_iconst (pc := 78) (x := nI 1) dX11_paid_78 (by decide) ?_
          refine P_iload_n (pc := 79) dX11_paid_79 rfl ?_
          refine P_ishl (pc := 80) dX11_paid_80 ?_
          rw [zshl_eq (by omega)]
          refine P_icmp_geN (pc := 81) (tgt := 120) dX11_paid_81 (by decide) (by omega) (by omega) (fun h81 => ?_) (fun h81 => ?_)
          · refine P_iload_n (pc := 120) dX11_paid_120 rfl ?_
            refine P_if_neN (pc := 121) (tgt := 129) dX11_paid_121 (by decide) (by omega) (fun h121 => ?_) (fun h121 => ?_)
            · refine P_iload (pc := 129) dX11_paid_129 rfl ?_
              refine P_iret (pc := 131) dX11_paid_131 ?_
              have hq2 : q = 2 ^ s 116 0 := by omega
              subst hq2
              have ha : aPaid s (nI vv) (nI j) = if j = 0 then nI (zCt (fun q => decide (zSum (fun i => zbit q i * zTxW s 0 i) (s 116 0) = vv)) (2 ^ s 116 0)) else zo (-4) (zLo (fun q => decide (zSum (fun i => zbit q i * zTxW s 0 i) (s 116 0) = vv)) (2 ^ s 116 0)) := by unfold aPaid; rw [if_pos ⟨h7, h15⟩, nI_clamp (by omega), nI_clamp (by omega)]
              exact ⟨by rw [ha]; first | rw [if_pos (by omega)] | rw [if_neg (by omega)], rfl, hF⟩
            · refine P_iload (pc := 124) dX11_paid_124 rfl ?_
              refine P_goto (pc := 126) (tgt := 131) dX11_paid_126 (by decide) ?_
              refine P_iret (pc := 131) dX11_paid_131 ?_
              have hq2 : q = 2 ^ s 116 0 := by omega
              subst hq2
              have ha : aPaid s (nI vv) (nI j) = if j = 0 then nI (zCt (fun q => decide (zSum (fun i => zbit q i * zTxW s 0 i) (s 116 0) = vv)) (2 ^ s 116 0)) else zo (-4) (zLo (fun q => decide (zSum (fun i => zbit q i * zTxW s 0 i) (s 116 0) = vv)) (2 ^ s 116 0)) := by unfold aPaid; rw [if_pos ⟨h7, h15⟩, nI_clamp (by omega), nI_clamp (by omega)]
              exact ⟨by rw [ha]; first | rw [if_pos (by omega)] | rw [if_neg (by omega)], rfl, hF⟩
          · refine P_aload_n (pc := 84) dX11_paid_84 rfl ?_
            refine P_iload (pc := 85) dX11_paid_85 rfl ?_
            refine P_iload_n (pc := 87) dX11_paid_87 rfl ?_
            obtain ⟨_, _, _, ko, rfl, rfl, rfl⟩ := c_taxOfSet_5 (l := l) (D := D) (I := J) (q := q) (n := s 116 0) (f := zTxW s 0) (by omega) (by omega) hZ
            have hps : zSum (fun i => zbit q i * zTxW s 0 i) (s 116 0) ≤ 810 * s 116 0 := zPs_le hR.1.1 hR.1.2.1 hR.1.2.2.1.2 q (s 116 0) (Nat.le_refl _)
            refine P_callV (pc := 88) (S := []) (As := [_, _]) ko dX11_paid_88 ok_X11_taxOfSet ml_X11_283 iv_X11_taxOfSet ⟨by decide, by decide⟩ (zret_i _) rfl ⟨rfl, by decide⟩ sh_0 ⟨by decide, rfl⟩ (Nat.le_of_ble_eq_true rfl) ?_
            refine P_iload_n (pc := 91) dX11_paid_91 rfl ?_
            refine P_icmp_neN (pc := 92) (tgt := 114) dX11_paid_92 (by decide) (by omega) (by omega) (fun h92 => ?_) (fun h92 => ?_)
            · refine P_iincN (pc := 114) (c := 1) dX11_paid_114 rfl (by decide) (by decide) rfl ?_
              refine P_goto (pc := 117) (tgt := 76) dX11_paid_117 (by decide) ?_
              have h9 := ih (q + 1) J (by omega) (by omega) hF hZ
              rw [(show zCt (fun q => decide (zSum (fun i => zbit q i * zTxW s 0 i) (s 116 0) = vv)) (q + 1) = zCt (fun q => decide (zSum (fun i => zbit q i * zTxW s 0 i) (s 116 0) = vv)) q by rw [zCt, if_neg (by simp only [decide_eq_true_eq]; omega)]; rfl), (show zLo (fun q => decide (zSum (fun i => zbit q i * zTxW s 0 i) (s 116 0) = vv)) (q + 1) = zLo (fun q => decide (zSum (fun i => zbit q i * zTxW s 0 i) (s 116 0) = vv)) q by rw [zLo]; cases zLo (fun q => decide (zSum (fun i => zbit q i * zTxW s 0 i) (s 116 0) = vv)) q <;> simp only []; rw [if_neg (by simp only [decide_eq_true_eq]; omega)])] at h9
              exact h9
            · refine P_iincN (pc := 95) (c := 1) dX11_paid_95 rfl (by decide) (by decide) rfl ?_
              rcases hlo : zLo (fun q => decide (zSum (fun i => zbit q i * zTxW s 0 i) (s 116 0) = vv)) q with _ | k
              · refine P_iload (pc := 98) dX11_paid_98 rfl ?_
                refine P_bipush (pc := 100) (x := (-4)) dX11_paid_100 (by decide) ?_
                refine P_icmp_neF (pc := 102) (tgt := 110) dX11_paid_102 (by decide) rfl ?_
                refine P_iload (pc := 105) dX11_paid_105 rfl ?_
                refine P_goto (pc := 107) (tgt := 112) dX11_paid_107 (by decide) ?_
                refine P_istore (pc := 112) dX11_paid_112 (by decide) rfl ?_
                refine P_iincN (pc := 114) (c := 1) dX11_paid_114 rfl (by decide) (by decide) rfl ?_
                refine P_goto (pc := 117) (tgt := 76) dX11_paid_117 (by decide) ?_
                have h9 := ih (q + 1) J (by omega) (by omega) hF hZ
                rw [(show zCt (fun q => decide (zSum (fun i => zbit q i * zTxW s 0 i) (s 116 0) = vv)) (q + 1) = zCt (fun q => decide (zSum (fun i => zbit q i * zTxW s 0 i) (s 116 0) = vv)) q + 1 by rw [zCt, if_pos (decide_eq_true (by omega))]), (show zLo (fun q => decide (zSum (fun i => zbit q i * zTxW s 0 i) (s 116 0) = vv)) (q + 1) = some q by rw [zLo, hlo]; simp only []; rw [if_pos (decide_eq_true (by omega))])] at h9
                exact h9
              · refine P_iload (pc := 98) dX11_paid_98 rfl ?_
                refine P_bipush (pc := 100) (x := (-4)) dX11_paid_100 (by decide) ?_
                refine P_icmp_neT (pc := 102) (tgt := 110) dX11_paid_102 (by decide) (zne4 (by have := (zLo_lt hlo).1; omega)) ?_
                refine P_iload (pc := 110) dX11_paid_110 rfl ?_
                refine P_istore (pc := 112) dX11_paid_112 (by decide) rfl ?_
                refine P_iincN (pc := 114) (c := 1) dX11_paid_114 rfl (by decide) (by decide) rfl ?_
                refine P_goto (pc := 117) (tgt := 76) dX11_paid_117 (by decide) ?_
                have h9 := ih (q + 1) J (by omega) (by omega) hF hZ
                rw [(show zCt (fun q => decide (zSum (fun i => zbit q i * zTxW s 0 i) (s 116 0) = vv)) (q + 1) = zCt (fun q => decide (zSum (fun i => zbit q i * zTxW s 0 i) (s 116 0) = vv)) q + 1 by rw [zCt, if_pos (decide_eq_true (by omega))]), (show zLo (fun q => decide (zSum (fun i => zbit q i * zTxW s 0 i) (s 116 0) = vv)) (q + 1) = some k by rw [zLo, hlo])] at h9
                exact h9
      have loop1 : ∀ (d : Nat) (i : Nat) (J : AI), s 116 0 - i < d → i ≤ s 116 0 → zSc 5 I J → (∀ x, x < i → J 108 x = nI (zTxW s 0 x)) → ZP l D zm_X11_paid 34 [some (.ref 0), some (.int (nI vv)), some (.int (nI j)), some (.int (nI (s 116 0))), some (.int (nI i)), none, none] [] J (zF 5) (fun v J G => v = some (aPaid s (nI vv) (nI j)) ∧ G = zF 5 ∧ zSc 5 I J) := by
        intro d
        induction d with
        | zero =>
          intro i J hd
          exact absurd hd (by omega)
        | succ d ih =>
          intro i J hd hi hF hZ
          have hCJ := hC.sc hF (Or.inl rfl)
          refine P_iload (pc := 34) dX11_paid_34 rfl ?_
          refine P_iload_n (pc := 36) dX11_paid_36 rfl ?_
          refine P_icmp_geN (pc := 37) (tgt := 66) dX11_paid_37 (by decide) (by omega) (by omega) (fun h37 => ?_) (fun h37 => ?_)
          · refine P_iconst (pc := 66) (x := nI 0) dX11_paid_66 (by decide) ?_
            refine P_istore (pc := 67) dX11_paid_67 (by decide) rfl ?_
            refine P_bipush (pc := 69) (x := (-4)) dX11_paid_69 (by decide) ?_
            refine P_istore (pc := 71) dX11_paid_71 (by decide) rfl ?_
            refine P_iconst (pc := 73) (x := nI 0) dX11_paid_73 (by decide) ?_
            refine P_istore (pc := 74) dX11_paid_74 (by decide) rfl ?_
            exact loop2 (2 ^ s 116 0 + 1) 0 J (Nat.lt_succ_of_le (Nat.sub_le _ _)) (Nat.zero_le _) hF (fun x hx => hZ x (by omega))
          · refine P_aload_n (pc := 40) dX11_paid_40 rfl ?_
            refine P_iload (pc := 41) dX11_paid_41 rfl ?_
            obtain ⟨_, K, _, ks, rfl, rfl, hK⟩ := c_send_5 (l := l) (D := D) hCJ hR (i := i) (by omega)
            refine P_callV (pc := 43) (S := []) (As := [_]) ks dX11_paid_43 ok_X11_send ml_X11_184 iv_X11_send ⟨by decide, by decide⟩ zret_v rfl ⟨rfl, by decide⟩ sh_0 ⟨by decide, rfl⟩ (Nat.le_of_ble_eq_true rfl) ?_
            refine P_aload_n (pc := 46) dX11_paid_46 rfl ?_
            refine P_getr (pc := 47) 11 12 dX11_paid_47 fl_X11_84 sh_0 fr_11_12 F_0_12 ?_
            refine P_iload (pc := 50) dX11_paid_50 rfl ?_
            refine P_aload_n (pc := 52) dX11_paid_52 rfl ?_
            refine P_getr (pc := 53) 11 4 dX11_paid_53 fl_X11_36 sh_0 fr_11_4 F_0_4 ?_
            refine P_geti (pc := 56) 9 5 (x := nI (zTxW s 0 i)) dX11_paid_56 fl_X11_200 sh_67 fi_9_5 (hK.2.2.2.2.1) ?_
            refine P_iast (pc := 59) (i) dX11_paid_59 sh_108 rfl (by omega) (by decide) ?_
            refine P_iincN (pc := 60) (c := 1) dX11_paid_60 rfl (by decide) (by decide) rfl ?_
            refine P_goto (pc := 63) (tgt := 34) dX11_paid_63 (by decide) ?_
            exact ih (i + 1) _ (by omega) (by omega) ((hF.trans hK.1.sc).trans (fun a ha => zu_o _ _ (by omega))) (fun x hx => by
              by_cases e : x = i
              · rw [e]; exact zu_s _ _ _ _
              · rw [zu_n _ _ e, hK.1 108 (by decide) (by decide) (by decide)]; exact hZ x (by omega))
      exact loop1 (s 116 0 + 1) 0 I (by omega) (by omega) zSc.rf (fun x hx => by omega)
    · refine P_iconst (pc := 18) (x := (-1)) dX11_paid_18 (by decide) ?_
      exact P_iret (pc := 19) dX11_paid_19 (⟨by unfold aPaid; rw [if_neg (by intro z; simp_all)], rfl, zSc.rf⟩)
set_option maxRecDepth 20000 in
theorem c_drawOf {l : Launch} {D : va_G} {tw : Nat} {I : AI} {z i : Nat} (hz : z < 10000) (hi : i < 4) : ZP l D zm_X11_drawOf 0 (zent 4 [.int (nI z), .int (nI i)]) [] I (zF tw) (fun v J G => v = some (nI (zDraw z i)) ∧ I = J ∧ G = zF tw) := by
  show ZP _ _ _ _ [some _, some _, none, none] _ _ _ _
  refine P_ldc2 (pc := 0) dX11_drawOf_0 cl_X11_317 ?_
  refine P_iload_n (pc := 3) dX11_drawOf_3 rfl ?_
  refine P_i2l (pc := 4) dX11_drawOf_4 ?_
  refine P_lmul (pc := 5) dX11_drawOf_5 ?_
  refine P_ldc2 (pc := 6) dX11_drawOf_6 cl_X11_319 ?_
  refine P_iload_n (pc := 9) dX11_drawOf_9 rfl ?_
  refine P_i2l (pc := 10) dX11_drawOf_10 ?_
  refine P_lmul (pc := 11) dX11_drawOf_11 ?_
  refine P_ladd (pc := 12) dX11_drawOf_12 ?_
  refine P_lconst (pc := 13) (x := 1) dX11_drawOf_13 (by decide) ?_
  refine P_ladd (pc := 14) dX11_drawOf_14 ?_
  refine P_lstore_n (pc := 15) dX11_drawOf_15 (by decide) rfl ?_
  refine P_lload_n (pc := 16) dX11_drawOf_16 rfl ?_
  refine P_lload_n (pc := 17) dX11_drawOf_17 rfl ?_
  refine P_lmul (pc := 18) dX11_drawOf_18 ?_
  refine P_ldc2 (pc := 19) dX11_drawOf_19 cl_X11_321 ?_
  refine P_lrem (pc := 22) dX11_drawOf_22 (by decide) ?_
  refine P_l2i (pc := 23) dX11_drawOf_23 ?_
  exact P_iret (pc := 24) dX11_drawOf_24 (⟨congrArg some (zDraw_eq hz hi), rfl, rfl⟩)
set_option maxRecDepth 20000 in
theorem c_day11_5 {l : Launch} {D : va_G} {I : AI} {s : Nat → Nat → Nat} (hC : CR 5 s I) (hR : RInv s) {x y : Int32} : ZP l D zm_X11_day 0 (zent 9 [.ref 0, .int x, .int y]) [] I (zF 5) (fun v J G => v = some (aDay s x y) ∧ G = zF 5 ∧ zSc 5 I J) := by
  have hB1 := hC.st.2.1
  have hB2 := hC.wk.2.1
  have hB3 := hC.sg.2.1
  have hn1 := hR.1.2.2.2.2.2
  show ZP _ _ _ _ [some _, some _, some _, none, none, none, none, none, none] _ _ _ _
  refine P_iload_n (pc := 0) dX11_day_0 rfl ?_
  refine P_sipush (pc := 1) (x := nI 10000) dX11_day_1 (by decide) ?_
  obtain ⟨_, _, _, kw1, rfl, rfl, rfl⟩ := c_isWithin (l := l) (D := D) (tw := 5) (I := I) (x := x) (n := 10000) (by omega)
  refine P_callS (pc := 4) (S := []) (As := [_, _]) kw1 dX11_day_4 ok_X11_isWithin ml_X11_180 is_X11_isWithin ⟨by decide, by decide⟩ (zret_b (zix x 10000)) rfl ⟨rfl, by decide⟩ (Nat.le_of_ble_eq_true rfl) ?_
  refine P_if_eqB (pc := 7) (tgt := 18) dX11_day_7 (by decide) (fun h7 => ?_) (fun h7 => ?_)
  · refine P_iconst (pc := 18) (x := (-1)) dX11_day_18 (by decide) ?_
    exact P_iret (pc := 19) dX11_day_19 (⟨by unfold aDay; rw [if_neg (by intro z; simp_all)], rfl, zSc.rf⟩)
  · obtain ⟨z, hl_z, rfl⟩ := zix_t h7 (by omega)
    refine P_iload_n (pc := 10) dX11_day_10 rfl ?_
    refine P_iconst (pc := 11) (x := nI 2) dX11_day_11 (by decide) ?_
    obtain ⟨_, _, _, kw2, rfl, rfl, rfl⟩ := c_isWithin (l := l) (D := D) (tw := 5) (I := I) (x := y) (n := 2) (by omega)
    refine P_callS (pc := 12) (S := []) (As := [_, _]) kw2 dX11_day_12 ok_X11_isWithin ml_X11_180 is_X11_isWithin ⟨by decide, by decide⟩ (zret_b (zix y 2)) rfl ⟨rfl, by decide⟩ (Nat.le_of_ble_eq_true rfl) ?_
    refine P_if_neB (pc := 15) (tgt := 20) dX11_day_15 (by decide) (fun h15 => ?_) (fun h15 => ?_)
    · obtain ⟨j, hl_j, rfl⟩ := zix_t h15 (by omega)
      refine P_iconst (pc := 20) (x := nI 1) dX11_day_20 (by decide) ?_
      refine P_aload_n (pc := 21) dX11_day_21 rfl ?_
      refine P_getr (pc := 22) 11 2 dX11_day_22 fl_X11_26 sh_0 fr_11_2 F_0_2 ?_
      refine P_getr (pc := 25) 8 0 dX11_day_25 fl_X11_125 sh_5 fr_8_0 F_5_0 ?_
      refine P_geti (pc := 28) 6 0 (x := nI (s 111 0)) dX11_day_28 fl_X11_143 sh_6 fi_6_0 (hC.st.1) ?_
      refine P_mmaxN (pc := 31) dX11_day_31 mm_X11_302 (by decide) (Nat.le_of_ble_eq_true rfl) (by omega) (by omega) ?_
      rw [show max 1 (s 111 0) = s 111 0 by omega]
      refine P_istore_n (pc := 34) dX11_day_34 (by decide) rfl ?_
      refine P_iconst (pc := 35) (x := nI 0) dX11_day_35 (by decide) ?_
      refine P_istore (pc := 36) dX11_day_36 (by decide) rfl ?_
      refine P_iconst (pc := 38) (x := nI 0) dX11_day_38 (by decide) ?_
      refine P_istore (pc := 39) dX11_day_39 (by decide) rfl ?_
      refine P_iconst (pc := 41) (x := nI 0) dX11_day_41 (by decide) ?_
      refine P_istore (pc := 42) dX11_day_42 (by decide) rfl ?_
      have loop : ∀ (d : Nat) (i : Nat) (v7 v8 : Option Value) (J : AI), s 116 0 - i < d → i ≤ s 116 0 → zSc 5 I J → ZP l D zm_X11_day 44 [some (.ref 0), some (.int (nI z)), some (.int (nI j)), some (.int (nI (s 111 0))), some (.int (nI (zSum (fun i => (zDy s z i).2.2.2.1) i))), some (.int (nI (zSum (fun i => if (zDy s z i).2.2.2.2.1 = zDraw z i / 8 % s 111 0 then 1 else 0) i))), some (.int (nI i)), v7, v8] [] J (zF 5) (fun v J G => v = some (aDay s (nI z) (nI j)) ∧ G = zF 5 ∧ zSc 5 I J) := by
        intro d
        induction d with
        | zero =>
          intro i v7 v8 J hd
          exact absurd hd (by omega)
        | succ d ih =>
          intro i v7 v8 J hd hi hF
          have hCJ := hC.sc hF (Or.inl rfl)
          refine P_iload (pc := 44) dX11_day_44 rfl ?_
          refine P_aload_n (pc := 46) dX11_day_46 rfl ?_
          refine P_getr (pc := 47) 11 2 dX11_day_47 fl_X11_26 sh_0 fr_11_2 F_0_2 ?_
          refine P_getr (pc := 50) 8 2 dX11_day_50 fl_X11_116 sh_5 fr_8_2 F_5_2 ?_
          refine P_geti (pc := 53) 10 4 (x := nI (s 116 0)) dX11_day_53 fl_X11_120 sh_31 fi_10_4 (hCJ.wk.1) ?_
          refine P_icmp_geN (pc := 56) (tgt := 153) dX11_day_56 (by decide) (by first | omega | (have := hm1; omega)) (by first | omega | (have := hm1; omega)) (fun h56 => ?_) (fun h56 => ?_)
          · refine P_iload_n (pc := 153) dX11_day_153 rfl ?_
            refine P_if_neN (pc := 154) (tgt := 162) dX11_day_154 (by decide) (by first | omega | (have := hm1; omega)) (fun h154 => ?_) (fun h154 => ?_)
            · refine P_iload (pc := 162) dX11_day_162 rfl ?_
              refine P_iret (pc := 164) dX11_day_164 ?_
              have hi2 : i = s 116 0 := by omega
              subst hi2
              have ha : aDay s (nI z) (nI j) = if j = 0 then nI (zSum (fun i => (zDy s z i).2.2.2.1) (s 116 0)) else nI (zSum (fun i => if (zDy s z i).2.2.2.2.1 = zDraw z i / 8 % s 111 0 then 1 else 0) (s 116 0)) := by unfold aDay; rw [if_pos ⟨h7, h15⟩, nI_clamp (by omega), nI_clamp (by omega)]
              exact ⟨by rw [ha]; first | rw [if_pos (by omega)] | rw [if_neg (by omega)], rfl, hF⟩
            · refine P_iload (pc := 157) dX11_day_157 rfl ?_
              refine P_goto (pc := 159) (tgt := 164) dX11_day_159 (by decide) ?_
              refine P_iret (pc := 164) dX11_day_164 ?_
              have hi2 : i = s 116 0 := by omega
              subst hi2
              have ha : aDay s (nI z) (nI j) = if j = 0 then nI (zSum (fun i => (zDy s z i).2.2.2.1) (s 116 0)) else nI (zSum (fun i => if (zDy s z i).2.2.2.2.1 = zDraw z i / 8 % s 111 0 then 1 else 0) (s 116 0)) := by unfold aDay; rw [if_pos ⟨h7, h15⟩, nI_clamp (by omega), nI_clamp (by omega)]
              exact ⟨by rw [ha]; first | rw [if_pos (by omega)] | rw [if_neg (by omega)], rfl, hF⟩
          · refine P_iload_n (pc := 59) dX11_day_59 rfl ?_
            refine P_iload (pc := 60) dX11_day_60 rfl ?_
            obtain ⟨_, _, _, kd, rfl, rfl, rfl⟩ := c_drawOf (l := l) (D := D) (tw := 5) (I := J) (z := z) (i := i) (by omega) (by omega)
            have hdr : zDraw z i < 65521 := Nat.mod_lt _ (by decide)
            refine P_callS (pc := 62) (S := []) (As := [_, _]) kd dX11_day_62 ok_X11_drawOf ml_X11_305 is_X11_drawOf ⟨by decide, by decide⟩ (zret_i _) rfl ⟨rfl, by decide⟩ (Nat.le_of_ble_eq_true rfl) ?_
            refine P_istore (pc := 65) dX11_day_65 (by decide) rfl ?_
            refine P_iload (pc := 67) dX11_day_67 rfl ?_
            refine P_bipush (pc := 69) (x := nI 8) dX11_day_69 (by decide) ?_
            refine P_idivN (pc := 71) dX11_day_71 (by first | omega | (have := hm1; omega)) (by first | omega | (have := hm1; omega)) (by first | omega | (have := hm1; omega)) ?_
            refine P_iload_n (pc := 72) dX11_day_72 rfl ?_
            refine P_iremN (pc := 73) dX11_day_73 (by first | omega | (have := hm1; omega)) (by first | omega | (have := hm1; omega)) (by first | omega | (have := hm1; omega)) ?_
            refine P_istore (pc := 74) dX11_day_74 (by decide) rfl ?_
            refine P_aload_n (pc := 76) dX11_day_76 rfl ?_
            refine P_getr (pc := 77) 11 4 dX11_day_77 fl_X11_36 sh_0 fr_11_4 F_0_4 ?_
            refine P_aload_n (pc := 80) dX11_day_80 rfl ?_
            refine P_getr (pc := 81) 11 2 dX11_day_81 fl_X11_26 sh_0 fr_11_2 F_0_2 ?_
            refine P_aload_n (pc := 84) dX11_day_84 rfl ?_
            refine P_getr (pc := 85) 11 2 dX11_day_85 fl_X11_26 sh_0 fr_11_2 F_0_2 ?_
            refine P_getr (pc := 88) 8 1 dX11_day_88 fl_X11_156 sh_5 fr_8_1 F_5_1 ?_
            refine P_aload_n (pc := 91) dX11_day_91 rfl ?_
            refine P_getr (pc := 92) 11 2 dX11_day_92 fl_X11_26 sh_0 fr_11_2 F_0_2 ?_
            refine P_getr (pc := 95) 8 2 dX11_day_95 fl_X11_116 sh_5 fr_8_2 F_5_2 ?_
            refine P_getr (pc := 98) 10 0 dX11_day_98 fl_X11_170 sh_31 fr_10_0 F_31_0 ?_
            refine P_iload (pc := 101) dX11_day_101 rfl ?_
            refine P_iald (pc := 103) (i) (x := nI (s 117 i)) dX11_day_103 sh_32 rfl (by first | omega | (have := hm1; omega)) (by decide) ((hCJ.wk.2.2 _ (by omega)).1.1) ?_
            refine P_iload (pc := 104) dX11_day_104 rfl ?_
            refine P_iload_n (pc := 106) dX11_day_106 rfl ?_
            refine P_iremN (pc := 107) dX11_day_107 (by first | omega | (have := hm1; omega)) (by first | omega | (have := hm1; omega)) (by first | omega | (have := hm1; omega)) ?_
            refine P_iload (pc := 108) dX11_day_108 rfl ?_
            refine P_iload (pc := 110) dX11_day_110 rfl ?_
            have hb := hCJ.wk.2.2 i (by omega)
            have hm1 : zDraw z i % s 111 0 < s 111 0 := Nat.mod_lt _ (by omega)
            have hm2 : zDraw z i / 8 % s 111 0 < s 111 0 := Nat.mod_lt _ (by omega)
            obtain ⟨_, K, _, km, rfl, rfl, hK0⟩ := c_make_5_27 (l := l) (D := D) (tw := 5) (I := J) hCJ.st hCJ.sg hCJ.rt (kd := s 117 i) (fm := zDraw z i % s 111 0) (a := zDraw z i / 8 % s 111 0) (to := zDraw z i / 8 % s 111 0) hn1 hR.1.1.2.2.1 hb.2.1 (by omega) (by omega) (by omega)
            have hK : zMk (zDy s z i) (zDraw z i / 8 % s 111 0) J K := hK0
            refine P_callV (pc := 112) (S := []) (As := [_, _, _, _, _, _]) km dX11_day_112 ok_X9_make ml_X11_254 iv_X9_make ⟨by decide, by decide⟩ zret_v rfl ⟨rfl, by decide⟩ sh_67 ⟨by decide, rfl⟩ (Nat.le_of_ble_eq_true rfl) ?_
            refine P_iload (pc := 115) dX11_day_115 rfl ?_
            refine P_aload_n (pc := 117) dX11_day_117 rfl ?_
            refine P_getr (pc := 118) 11 4 dX11_day_118 fl_X11_36 sh_0 fr_11_4 F_0_4 ?_
            refine P_geti (pc := 121) 9 5 (x := nI ((zDy s z i).2.2.2.1)) dX11_day_121 fl_X11_200 sh_67 fi_9_5 (hK.2.2.2.2.1) ?_
            refine P_iaddN (pc := 124) dX11_day_124 ?_
            refine P_istore (pc := 125) dX11_day_125 (by decide) rfl ?_
            refine P_iload (pc := 127) dX11_day_127 rfl ?_
            refine P_aload_n (pc := 129) dX11_day_129 rfl ?_
            refine P_getr (pc := 130) 11 4 dX11_day_130 fl_X11_36 sh_0 fr_11_4 F_0_4 ?_
            refine P_geti (pc := 133) 9 6 (x := zb (decide ((zDy s z i).2.2.2.2.1 = zDraw z i / 8 % s 111 0))) dX11_day_133 fl_X11_203 sh_67 fi_9_6 (hK.2.2.2.2.2.1) ?_
            refine P_sel1 (pc := 136) (nI (if (zDy s z i).2.2.2.2.1 = zDraw z i / 8 % s 111 0 then 1 else 0)) 144 (fun k144_136 => ?_) ?_
            · refine P_if_eqB (pc := 136) (tgt := 143) dX11_day_136 (by decide) (fun h136 => ?_) (fun h136 => ?_)
              · refine P_iconst (pc := 143) (x := nI 0) dX11_day_143 (by decide) ?_
                exact k144_136 _ (by first | rw [if_neg (of_decide_eq_false h136)] | rw [if_pos (of_decide_eq_true h136)])
              · refine P_iconst (pc := 139) (x := nI 1) dX11_day_139 (by decide) ?_
                refine P_goto (pc := 140) (tgt := 144) dX11_day_140 (by decide) ?_
                exact k144_136 _ (by first | rw [if_neg (of_decide_eq_false h136)] | rw [if_pos (of_decide_eq_true h136)])
            · refine P_iaddN (pc := 144) dX11_day_144 ?_
              refine P_istore (pc := 145) dX11_day_145 (by decide) rfl ?_
              refine P_iincN (pc := 147) (c := 1) dX11_day_147 rfl (by decide) (by decide) rfl ?_
              refine P_goto (pc := 150) (tgt := 44) dX11_day_150 (by decide) ?_
              exact ih (i + 1) _ _ K (by omega) (by omega) (hF.trans hK.1.sc)
      exact loop (s 116 0 + 1) 0 none none I (by omega) (by omega) zSc.rf
    · refine P_iconst (pc := 18) (x := (-1)) dX11_day_18 (by decide) ?_
      exact P_iret (pc := 19) dX11_day_19 (⟨by unfold aDay; rw [if_neg (by intro z; simp_all)], rfl, zSc.rf⟩)
set_option maxRecDepth 20000 in
theorem c_mend11_36 {l : Launch} {D : va_G} {I : AI} {s : Nat → Nat → Nat} (hC : CR 36 s I) (hR : RInv s) {x : Int32} : ZP l D zm_X11_mend 0 (zent 3 [.ref 0, .int x]) [] I (zF 36) (fun v J G => v = some (aMend s x) ∧ G = zF 36 ∧ zSc 36 I J) := by
  have hB1 := hC.st.2.1
  have hB2 := hC.wk.2.1
  have hB3 := hC.sg.2.1
  have hm8 := hR.1.2.2.1.1
  show ZP _ _ _ _ [some _, some _, none] _ _ _ _
  refine P_iload_n (pc := 0) dX11_mend_0 rfl ?_
  refine P_iconst (pc := 1) (x := nI 2) dX11_mend_1 (by decide) ?_
  obtain ⟨_, _, _, kw1, rfl, rfl, rfl⟩ := c_isWithin (l := l) (D := D) (tw := 36) (I := I) (x := x) (n := 2) (by omega)
  refine P_callS (pc := 2) (S := []) (As := [_, _]) kw1 dX11_mend_2 ok_X11_isWithin ml_X11_180 is_X11_isWithin ⟨by decide, by decide⟩ (zret_b (zix x 2)) rfl ⟨rfl, by decide⟩ (Nat.le_of_ble_eq_true rfl) ?_
  refine P_if_neB (pc := 5) (tgt := 10) dX11_mend_5 (by decide) (fun h5 => ?_) (fun h5 => ?_)
  · obtain ⟨j, hl_j, rfl⟩ := zix_t h5 (by omega)
    refine P_aload_n (pc := 10) dX11_mend_10 rfl ?_
    refine P_getr (pc := 11) 11 9 dX11_mend_11 fl_X11_71 sh_0 fr_11_9 F_0_9 ?_
    obtain ⟨_, K0, _, kc, rfl, rfl, hk1, hk2⟩ := c_pclear (l := l) (D := D) (tw := 36) (I := I)
    refine P_callV (pc := 14) (S := []) (As := []) kc dX11_mend_14 ok_X1_clear ml_X11_235 iv_X1_clear ⟨by decide, by decide⟩ zret_v rfl ⟨rfl, by decide⟩ sh_97 ⟨by decide, rfl⟩ (Nat.le_of_ble_eq_true rfl) ?_
    refine P_iconst (pc := 17) (x := nI 0) dX11_mend_17 (by decide) ?_
    refine P_istore_n (pc := 18) dX11_mend_18 (by decide) rfl ?_
    have loop : ∀ (d : Nat) (k : Nat) (J : AI), s 122 0 - k < d → k ≤ s 122 0 → zSc 36 I J → zPic J (zPkL (fun k => nI (taxAt (sT s (gCut s k)) 352)) k) → ZP l D zm_X11_mend 19 [some (.ref 0), some (.int (nI j)), some (.int (nI k))] [] J (zF 36) (fun v J G => v = some (aMend s (nI j)) ∧ G = zF 36 ∧ zSc 36 I J) := by
      intro d
      induction d with
      | zero =>
        intro k J hd
        exact absurd hd (by omega)
      | succ d ih =>
        intro k J hd hk hF hP
        have hCJ := hC.sc hF (Or.inr rfl)
        refine P_iload_n (pc := 19) dX11_mend_19 rfl ?_
        refine P_aload_n (pc := 20) dX11_mend_20 rfl ?_
        refine P_getr (pc := 21) 11 2 dX11_mend_21 fl_X11_26 sh_0 fr_11_2 F_0_2 ?_
        refine P_getr (pc := 24) 8 1 dX11_mend_24 fl_X11_156 sh_36 fr_8_1 F_36_1 ?_
        refine P_geti (pc := 27) 5 3 (x := nI (s 122 0)) dX11_mend_27 fl_X11_214 sh_58 fi_5_3 (hCJ.sg.1) ?_
        refine P_icmp_geN (pc := 30) (tgt := 77) dX11_mend_30 (by decide) (by omega) (by omega) (fun h30 => ?_) (fun h30 => ?_)
        · refine P_aload_n (pc := 77) dX11_mend_77 rfl ?_
          refine P_getr (pc := 78) 11 9 dX11_mend_78 fl_X11_71 sh_0 fr_11_9 F_0_9 ?_
          refine P_iload_n (pc := 81) dX11_mend_81 rfl ?_
          obtain ⟨_, _, _, ka, rfl, rfl, rfl⟩ := c_answer (l := l) (D := D) (tw := 36) (I := J) (pk := zPkL (fun k => nI (taxAt (sT s (gCut s k)) 352)) k) hP (x := j) (by omega)
          refine P_callV (pc := 82) (S := []) (As := [_]) ka dX11_mend_82 ok_X1_answer ml_X11_247 iv_X1_answer ⟨by decide, by decide⟩ (zret_i _) rfl ⟨rfl, by decide⟩ sh_97 ⟨by decide, rfl⟩ (Nat.le_of_ble_eq_true rfl) ?_
          refine P_iret (pc := 85) dX11_mend_85 ?_
          have hk2 : k = s 122 0 := by omega
          subst hk2
          exact ⟨by unfold aMend; rw [if_pos h5, nI_clamp (by omega)]; rfl, rfl, hF⟩
        · refine P_aload_n (pc := 33) dX11_mend_33 rfl ?_
          refine P_getr (pc := 34) 11 5 dX11_mend_34 fl_X11_43 sh_0 fr_11_5 F_0_5 ?_
          refine P_aload_n (pc := 37) dX11_mend_37 rfl ?_
          refine P_getr (pc := 38) 11 2 dX11_mend_38 fl_X11_26 sh_0 fr_11_2 F_0_2 ?_
          refine P_getr (pc := 41) 8 1 dX11_mend_41 fl_X11_156 sh_36 fr_8_1 F_36_1 ?_
          obtain ⟨_, K1, _, kc1, rfl, rfl, hc1, hc2⟩ := c_copyFrom_70_58 (l := l) (D := D) (tw := 36) (I := J) hCJ.sg
          refine P_callV (pc := 44) (S := []) (As := [_]) kc1 dX11_mend_44 ok_X5_copyFrom ml_X11_236 iv_X5_copyFrom ⟨by decide, by decide⟩ zret_v rfl ⟨rfl, by decide⟩ sh_70 ⟨by decide, rfl⟩ (Nat.le_of_ble_eq_true rfl) ?_
          refine P_aload_n (pc := 47) dX11_mend_47 rfl ?_
          refine P_getr (pc := 48) 11 5 dX11_mend_48 fl_X11_43 sh_0 fr_11_5 F_0_5 ?_
          refine P_iload_n (pc := 51) dX11_mend_51 rfl ?_
          obtain ⟨_, K2, _, kc2, rfl, rfl, hr1, hr2⟩ := c_remove_70 (l := l) (D := D) (tw := 36) (I := K1) hc2 (k := k) (by omega)
          have hS2 : zSc 36 J K2 := zSc.trans hc1.sc hr1.sc
          have hC2 := hCJ.sc hS2 (Or.inr rfl)
          refine P_callV (pc := 52) (S := []) (As := [_]) kc2 dX11_mend_52 ok_X5_remove ml_X11_223 iv_X5_remove ⟨by decide, by decide⟩ zret_v rfl ⟨rfl, by decide⟩ sh_70 ⟨by decide, rfl⟩ (Nat.le_of_ble_eq_true rfl) ?_
          refine P_aload_n (pc := 55) dX11_mend_55 rfl ?_
          refine P_getr (pc := 56) 11 9 dX11_mend_56 fl_X11_71 sh_0 fr_11_9 F_0_9 ?_
          refine P_iload_n (pc := 59) dX11_mend_59 rfl ?_
          refine P_aload_n (pc := 60) dX11_mend_60 rfl ?_
          refine P_aload_n (pc := 61) dX11_mend_61 rfl ?_
          refine P_getr (pc := 62) 11 5 dX11_mend_62 fl_X11_43 sh_0 fr_11_5 F_0_5 ?_
          obtain ⟨_, K, _, kt, rfl, rfl, hK⟩ := c_taxBy_36_70 (l := l) (D := D) (I := K2) hC2.st (tr_cut hm8 (by omega) hr2) (CWk.c hC2.wk (fun i hi => ⟨rfl, rfl, rfl, (gCut_t (by omega) hm8 : sT s (gCut s k) 122 (352 + 28 + i) = s 122 (28 + i))⟩)) hC2.rt hR.1.2.2.2.2.2 hR.1.1.2.2.1
          have hv : (nI (zSum (fun i => (zTrip (zNx (s 111 0) (s 123) (s 124) (fun c => zSign (sgC (sT s (gCut s k)) 352) (sgT (sT s (gCut s k)) 352) (sgN (sT s (gCut s k)) 352) c (s 119 i) (sT s (gCut s k) 122 352)) (s 117 i) (s 119 i)) (fun c n => zOnB (s 123) (s 124) c n (sT s (gCut s k) 122 (352 + 28 + i))) (s 123) (s 117 i) (s 120 0) (s 120 1) (s 120 2) (s 119 i) (s 118 i)).2.2.2.1) (s 116 0))) = (fun k => nI (taxAt (sT s (gCut s k)) 352)) k := rfl
          refine P_callV (pc := 65) (S := [_, _]) (As := [_]) kt dX11_mend_65 ok_X11_taxBy ml_X11_210 iv_X11_taxBy ⟨by decide, by decide⟩ (zret_i _) rfl ⟨rfl, by decide⟩ sh_0 ⟨by decide, rfl⟩ (Nat.le_of_ble_eq_true rfl) ?_
          obtain ⟨_, Q, _, kq, rfl, rfl, hQ1, hQ2⟩ := c_offerLeast (l := l) (D := D) (tw := 36) (I := K) (pk := zPkL (fun k => nI (taxAt (sT s (gCut s k)) 352)) k) (hP.eq ((hK 97 (by decide) (by decide) (by decide)).trans ((hr1 97 (by decide) (by decide) (by decide) (by decide)).trans (hc1 97 (by decide) (by decide) (by decide) (by decide))))) (fun k w e => by have := (zPkL_lt e).1; omega) (q := k) (u := (fun k => nI (taxAt (sT s (gCut s k)) 352)) k)
          refine P_callV (pc := 68) (S := []) (As := [_, _]) kq dX11_mend_68 ok_X1_offerLeast ml_X11_250 iv_X1_offerLeast ⟨by decide, by decide⟩ zret_v rfl ⟨rfl, by decide⟩ sh_97 ⟨by decide, rfl⟩ (Nat.le_of_ble_eq_true rfl) ?_
          refine P_iincN (pc := 71) (c := 1) dX11_mend_71 rfl (by decide) (by decide) rfl ?_
          refine P_goto (pc := 74) (tgt := 19) dX11_mend_74 (by decide) ?_
          exact ih (k + 1) Q (by omega) (by omega) (((hF.trans hS2).trans hK.sc).trans hQ1.sc) hQ2
    exact loop (s 122 0 + 1) 0 K0 (by omega) (by omega) hk1.sc hk2
  · refine P_iconst (pc := 8) (x := (-1)) dX11_mend_8 (by decide) ?_
    exact P_iret (pc := 9) dX11_mend_9 (⟨by unfold aMend; rw [if_neg (by intro z; simp_all)], rfl, zSc.rf⟩)
set_option maxRecDepth 20000 in
theorem c_taxOfSet_36 {l : Launch} {D : va_G} {I : AI} {q n : Nat} {f : Nat → Nat} (hq : q < 2 ^ 31) (hn : n ≤ 4) (hf : ∀ i, i < n → I 108 i = nI (f i)) : ZP l D zm_X11_taxOfSet 0 (zent 5 [.ref 0, .int (nI q), .int (nI n)]) [] I (zF 36) (fun v J G => v = some (nI (zSum (fun i => zbit q i * f i) n)) ∧ I = J ∧ G = zF 36) := by
  have loop : ∀ (d : Nat) (i : Nat), n - i < d → i ≤ n → ZP l D zm_X11_taxOfSet 5 [some (.ref 0), some (.int (nI q)), some (.int (nI n)), some (.int (nI (zSum (fun i => zbit q i * f i) i))), some (.int (nI i))] [] I (zF 36) (fun v J G => v = some (nI (zSum (fun i => zbit q i * f i) n)) ∧ I = J ∧ G = zF 36) := by
    intro d
    induction d with
    | zero =>
      intro i hd
      exact absurd hd (by omega)
    | succ d ih =>
      intro i hd hi
      refine P_iload (pc := 5) dX11_taxOfSet_5 rfl ?_
      refine P_iload_n (pc := 7) dX11_taxOfSet_7 rfl ?_
      refine P_icmp_geN (pc := 8) (tgt := 37) dX11_taxOfSet_8 (by decide) (by omega) (by omega) (fun h8 => ?_) (fun h8 => ?_)
      · refine P_iload_n (pc := 37) dX11_taxOfSet_37 rfl ?_
        refine P_iret (pc := 38) dX11_taxOfSet_38 ?_
        have hi2 : i = n := by omega
        subst hi2
        exact ⟨rfl, rfl, rfl⟩
      · refine P_iload_n (pc := 11) dX11_taxOfSet_11 rfl ?_
        refine P_iload (pc := 12) dX11_taxOfSet_12 rfl ?_
        refine P_ishr (pc := 14) dX11_taxOfSet_14 ?_
        refine P_iconst (pc := 15) (x := nI 1) dX11_taxOfSet_15 (by decide) ?_
        refine P_iand (pc := 16) dX11_taxOfSet_16 ?_
        rw [zbit_eq (by omega) (by omega)]
        have hb1 := zbit_le q i
        refine P_iconst (pc := 17) (x := nI 1) dX11_taxOfSet_17 (by decide) ?_
        refine P_icmp_neN (pc := 18) (tgt := 31) dX11_taxOfSet_18 (by decide) (by omega) (by omega) (fun h18 => ?_) (fun h18 => ?_)
        · refine P_iincN (pc := 31) (c := 1) dX11_taxOfSet_31 rfl (by decide) (by decide) rfl ?_
          refine P_goto (pc := 34) (tgt := 5) dX11_taxOfSet_34 (by decide) ?_
          have h9 := ih (i + 1) (by omega) (by omega)
          rw [zSum, show zbit q i = 0 by omega] at h9
          rw [Nat.zero_mul, Nat.add_zero] at h9
          exact h9
        · refine P_iload_n (pc := 21) dX11_taxOfSet_21 rfl ?_
          refine P_aload_n (pc := 22) dX11_taxOfSet_22 rfl ?_
          refine P_getr (pc := 23) 11 12 dX11_taxOfSet_23 fl_X11_84 sh_0 fr_11_12 F_0_12 ?_
          refine P_iload (pc := 26) dX11_taxOfSet_26 rfl ?_
          refine P_iald (pc := 28) (i) (x := nI (f i)) dX11_taxOfSet_28 sh_108 rfl (by omega) (by decide) (hf _ (by omega)) ?_
          refine P_iaddN (pc := 29) dX11_taxOfSet_29 ?_
          refine P_istore_n (pc := 30) dX11_taxOfSet_30 (by decide) rfl ?_
          refine P_iincN (pc := 31) (c := 1) dX11_taxOfSet_31 rfl (by decide) (by decide) rfl ?_
          refine P_goto (pc := 34) (tgt := 5) dX11_taxOfSet_34 (by decide) ?_
          have h9 := ih (i + 1) (by omega) (by omega)
          rw [zSum, show zbit q i = 1 by omega] at h9
          rw [Nat.one_mul] at h9
          exact h9
  show ZP _ _ _ _ [some _, some _, some _, none, none] _ _ _ _
  refine P_iconst (pc := 0) (x := nI 0) dX11_taxOfSet_0 (by decide) ?_
  refine P_istore_n (pc := 1) dX11_taxOfSet_1 (by decide) rfl ?_
  refine P_iconst (pc := 2) (x := nI 0) dX11_taxOfSet_2 (by decide) ?_
  refine P_istore (pc := 3) dX11_taxOfSet_3 (by decide) rfl ?_
  exact loop (n + 1) 0 (by omega) (by omega)
set_option maxRecDepth 20000 in
theorem c_paid11_36 {l : Launch} {D : va_G} {I : AI} {s : Nat → Nat → Nat} (hC : CR 36 s I) (hR : RInv s) {x y : Int32} : ZP l D zm_X11_paid 0 (zent 7 [.ref 0, .int x, .int y]) [] I (zF 36) (fun v J G => v = some (aPaid s x y) ∧ G = zF 36 ∧ zSc 36 I J) := by
  have hB1 := hC.st.2.1
  have hB2 := hC.wk.2.1
  have hB3 := hC.sg.2.1
  show ZP _ _ _ _ [some _, some _, some _, none, none, none, none] _ _ _ _
  refine P_iload_n (pc := 0) dX11_paid_0 rfl ?_
  refine P_sipush (pc := 1) (x := nI 1000) dX11_paid_1 (by decide) ?_
  obtain ⟨_, _, _, kw1, rfl, rfl, rfl⟩ := c_isWithin (l := l) (D := D) (tw := 36) (I := I) (x := x) (n := 1000) (by omega)
  refine P_callS (pc := 4) (S := []) (As := [_, _]) kw1 dX11_paid_4 ok_X11_isWithin ml_X11_180 is_X11_isWithin ⟨by decide, by decide⟩ (zret_b (zix x 1000)) rfl ⟨rfl, by decide⟩ (Nat.le_of_ble_eq_true rfl) ?_
  refine P_if_eqB (pc := 7) (tgt := 18) dX11_paid_7 (by decide) (fun h7 => ?_) (fun h7 => ?_)
  · refine P_iconst (pc := 18) (x := (-1)) dX11_paid_18 (by decide) ?_
    exact P_iret (pc := 19) dX11_paid_19 (⟨by unfold aPaid; rw [if_neg (by intro z; simp_all)], rfl, zSc.rf⟩)
  · obtain ⟨vv, hl_vv, rfl⟩ := zix_t h7 (by omega)
    refine P_iload_n (pc := 10) dX11_paid_10 rfl ?_
    refine P_iconst (pc := 11) (x := nI 2) dX11_paid_11 (by decide) ?_
    obtain ⟨_, _, _, kw2, rfl, rfl, rfl⟩ := c_isWithin (l := l) (D := D) (tw := 36) (I := I) (x := y) (n := 2) (by omega)
    refine P_callS (pc := 12) (S := []) (As := [_, _]) kw2 dX11_paid_12 ok_X11_isWithin ml_X11_180 is_X11_isWithin ⟨by decide, by decide⟩ (zret_b (zix y 2)) rfl ⟨rfl, by decide⟩ (Nat.le_of_ble_eq_true rfl) ?_
    refine P_if_neB (pc := 15) (tgt := 20) dX11_paid_15 (by decide) (fun h15 => ?_) (fun h15 => ?_)
    · obtain ⟨j, hl_j, rfl⟩ := zix_t h15 (by omega)
      refine P_aload_n (pc := 20) dX11_paid_20 rfl ?_
      refine P_getr (pc := 21) 11 2 dX11_paid_21 fl_X11_26 sh_0 fr_11_2 F_0_2 ?_
      refine P_getr (pc := 24) 8 2 dX11_paid_24 fl_X11_116 sh_36 fr_8_2 F_36_2 ?_
      refine P_geti (pc := 27) 10 4 (x := nI (s 116 0)) dX11_paid_27 fl_X11_120 sh_62 fi_10_4 (hC.wk.1) ?_
      refine P_istore_n (pc := 30) dX11_paid_30 (by decide) rfl ?_
      refine P_iconst (pc := 31) (x := nI 0) dX11_paid_31 (by decide) ?_
      refine P_istore (pc := 32) dX11_paid_32 (by decide) rfl ?_
      have hp2 : 2 ^ s 116 0 ≤ 2 ^ 4 := Nat.pow_le_pow_right (by omega) hB2
      have loop2 : ∀ (d : Nat) (q : Nat) (J : AI), 2 ^ s 116 0 - q < d → q ≤ 2 ^ s 116 0 → zSc 36 I J → (∀ i, i < s 116 0 → J 108 i = nI (zTxW s 0 i)) → ZP l D zm_X11_paid 76 [some (.ref 0), some (.int (nI vv)), some (.int (nI j)), some (.int (nI (s 116 0))), some (.int (nI (zCt (fun q => decide (zSum (fun i => zbit q i * zTxW s 0 i) (s 116 0) = vv)) q))), some (.int (zo (-4) (zLo (fun q => decide (zSum (fun i => zbit q i * zTxW s 0 i) (s 116 0) = vv)) q))), some (.int (nI q))] [] J (zF 36) (fun v J G => v = some (aPaid s (nI vv) (nI j)) ∧ G = zF 36 ∧ zSc 36 I J) := by
        intro d
        induction d with
        | zero =>
          intro q J hd
          exact absurd hd (by omega)
        | succ d ih =>
          intro q J hd hq hF hZ
          refine P_iload (pc := 76) dX11_paid_76 rfl ?_
          refine P_iconst (pc := 78) (x := nI 1) dX11_paid_78 (by decide) ?_
          refine P_iload_n (pc := 79) dX11_paid_79 rfl ?_
          refine P_ishl (pc := 80) dX11_paid_80 ?_
          rw [zshl_eq (by omega)]
          refine P_icmp_geN (pc := 81) (tgt := 120) dX11_paid_81 (by decide) (by omega) (by omega) (fun h81 => ?_) (fun h81 => ?_)
          · refine P_iload_n (pc := 120) dX11_paid_120 rfl ?_
            refine P_if_neN (pc := 121) (tgt := 129) dX11_paid_121 (by decide) (by omega) (fun h121 => ?_) (fun h121 => ?_)
            · refine P_iload (pc := 129) dX11_paid_129 rfl ?_
              refine P_iret (pc := 131) dX11_paid_131 ?_
              have hq2 : q = 2 ^ s 116 0 := by omega
              subst hq2
              have ha : aPaid s (nI vv) (nI j) = if j = 0 then nI (zCt (fun q => decide (zSum (fun i => zbit q i * zTxW s 0 i) (s 116 0) = vv)) (2 ^ s 116 0)) else zo (-4) (zLo (fun q => decide (zSum (fun i => zbit q i * zTxW s 0 i) (s 116 0) = vv)) (2 ^ s 116 0)) := by unfold aPaid; rw [if_pos ⟨h7, h15⟩, nI_clamp (by omega), nI_clamp (by omega)]
              exact ⟨by rw [ha]; first | rw [if_pos (by omega)] | rw [if_neg (by omega)], rfl, hF⟩
            · refine P_iload (pc := 124) dX11_paid_124 rfl ?_
              refine P_goto (pc := 126) (tgt := 131) dX11_paid_126 (by decide) ?_
              refine P_iret (pc := 131) dX11_paid_131 ?_
              have hq2 : q = 2 ^ s 116 0 := by omega
              subst hq2
              have ha : aPaid s (nI vv) (nI j) = if j = 0 then nI (zCt (fun q => decide (zSum (fun i => zbit q i * zTxW s 0 i) (s 116 0) = vv)) (2 ^ s 116 0)) else zo (-4) (zLo (fun q => decide (zSum (fun i => zbit q i * zTxW s 0 i) (s 116 0) = vv)) (2 ^ s 116 0)) := by unfold aPaid; rw [if_pos ⟨h7, h15⟩, nI_clamp (by omega), nI_clamp (by omega)]
              exact ⟨by rw [ha]; first | rw [if_pos (by omega)] | rw [if_neg (by omega)], rfl, hF⟩
          · refine P_aload_n (pc := 84) dX11_paid_84 rfl ?_
            refine P_iload (pc := 85) dX11_paid_85 rfl ?_
            refine P_iload_n (pc := 87) dX11_paid_87 rfl ?_
            obtain ⟨_, _, _, ko, rfl, rfl, rfl⟩ := c_taxOfSet_36 (l := l) (D := D) (I := J) (q := q) (n := s 116 0) (f := zTxW s 0) (by omega) (by omega) hZ
            have hps : zSum (fun i => zbit q i * zTxW s 0 i) (s 116 0) ≤ 810 * s 116 0 := zPs_le hR.1.1 hR.1.2.1 hR.1.2.2.1.2 q (s 116 0) (Nat.le_refl _)
            refine P_callV (pc := 88) (S := []) (As := [_, _]) ko dX11_paid_88 ok_X11_taxOfSet ml_X11_283 iv_X11_taxOfSet ⟨by decide, by decide⟩ (zret_i _) rfl ⟨rfl, by decide⟩ sh_0 ⟨by decide, rfl⟩ (Nat.le_of_ble_eq_true rfl) ?_
            refine P_iload_n (pc := 91) dX11_paid_91 rfl ?_
            refine P_icmp_neN (pc := 92) (tgt := 114) dX11_paid_92 (by decide) (by omega) (by omega) (fun h92 => ?_) (fun h92 => ?_)
            · refine P_iincN (pc := 114) (c := 1) dX11_paid_114 rfl (by decide) (by decide) rfl ?_
              refine P_goto (pc := 117) (tgt := 76) dX11_paid_117 (by decide) ?_
              have h9 := ih (q + 1) J (by omega) (by omega) hF hZ
              rw [(show zCt (fun q => decide (zSum (fun i => zbit q i * zTxW s 0 i) (s 116 0) = vv)) (q + 1) = zCt (fun q => decide (zSum (fun i => zbit q i * zTxW s 0 i) (s 116 0) = vv)) q by rw [zCt, if_neg (by simp only [decide_eq_true_eq]; omega)]; rfl), (show zLo (fun q => decide (zSum (fun i => zbit q i * zTxW s 0 i) (s 116 0) = vv)) (q + 1) = zLo (fun q => decide (zSum (fun i => zbit q i * zTxW s 0 i) (s 116 0) = vv)) q by rw [zLo]; cases zLo (fun q => decide (zSum (fun i => zbit q i * zTxW s 0 i) (s 116 0) = vv)) q <;> simp only []; rw [if_neg (by simp only [decide_eq_true_eq]; omega)])] at h9
              exact h9
            · refine P_iincN (pc := 95) (c := 1) dX11_paid_95 rfl (by decide) (by decide) rfl ?_
              rcases hlo : zLo (fun q => decide (zSum (fun i => zbit q i * zTxW s 0 i) (s 116 0) = vv)) q with _ | k
              · refine P_iload (pc := 98) dX11_paid_98 rfl ?_
                refine P_bipush (pc := 100) (x := (-4)) dX11_paid_100 (by decide) ?_
                refine P_icmp_neF (pc := 102) (tgt := 110) dX11_paid_102 (by decide) rfl ?_
                refine P_iload (pc := 105) dX11_paid_105 rfl ?_
                refine P_goto (pc := 107) (tgt := 112) dX11_paid_107 (by decide) ?_
                refine P_istore (pc := 112) dX11_paid_112 (by decide) rfl ?_
                refine P_iincN (pc := 114) (c := 1) dX11_paid_114 rfl (by decide) (by decide) rfl ?_
                refine P_goto (pc := 117) (tgt := 76) dX11_paid_117 (by decide) ?_
                have h9 := ih (q + 1) J (by omega) (by omega) hF hZ
                rw [(show zCt (fun q => decide (zSum (fun i => zbit q i * zTxW s 0 i) (s 116 0) = vv)) (q + 1) = zCt (fun q => decide (zSum (fun i => zbit q i * zTxW s 0 i) (s 116 0) = vv)) q + 1 by rw [zCt, if_pos (decide_eq_true (by omega))]), (show zLo (fun q => decide (zSum (fun i => zbit q i * zTxW s 0 i) (s 116 0) = vv)) (q + 1) = some q by rw [zLo, hlo]; simp only []; rw [if_pos (decide_eq_true (by omega))])] at h9
                exact h9
              · refine P_iload (pc := 98) dX11_paid_98 rfl ?_
                refine P_bipush (pc := 100) (x := (-4)) dX11_paid_100 (by decide) ?_
                refine P_icmp_neT (pc := 102) (tgt := 110) dX11_paid_102 (by decide) (zne4 (by have := (zLo_lt hlo).1; omega)) ?_
                refine P_iload (pc := 110) dX11_paid_110 rfl ?_
                refine P_istore (pc := 112) dX11_paid_112 (by decide) rfl ?_
                refine P_iincN (pc := 114) (c := 1) dX11_paid_114 rfl (by decide) (by decide) rfl ?_
                refine P_goto (pc := 117) (tgt := 76) dX11_paid_117 (by decide) ?_
                have h9 := ih (q + 1) J (by omega) (by omega) hF hZ
                rw [(show zCt (fun q => decide (zSum (fun i => zbit q i * zTxW s 0 i) (s 116 0) = vv)) (q + 1) = zCt (fun q => decide (zSum (fun i => zbit q i * zTxW s 0 i) (s 116 0) = vv)) q + 1 by rw [zCt, if_pos (decide_eq_true (by omega))]), (show zLo (fun q => decide (zSum (fun i => zbit q i * zTxW s 0 i) (s 116 0) = vv)) (q + 1) = some k by rw [zLo, hlo])] at h9
                exact h9
      have loop1 : ∀ (d : Nat) (i : Nat) (J : AI), s 116 0 - i < d → i ≤ s 116 0 → zSc 36 I J → (∀ x, x < i → J 108 x = nI (zTxW s 0 x)) → ZP l D zm_X11_paid 34 [some (.ref 0), some (.int (nI vv)), some (.int (nI j)), some (.int (nI (s 116 0))), some (.int (nI i)), none, none] [] J (zF 36) (fun v J G => v = some (aPaid s (nI vv) (nI j)) ∧ G = zF 36 ∧ zSc 36 I J) := by
        intro d
        induction d with
        | zero =>
          intro i J hd
          exact absurd hd (by omega)
        | succ d ih =>
          intro i J hd hi hF hZ
          have hCJ := hC.sc hF (Or.inr rfl)
          refine P_iload (pc := 34) dX11_paid_34 rfl ?_
          refine P_iload_n (pc := 36) dX11_paid_36 rfl ?_
          refine P_icmp_geN (pc := 37) (tgt := 66) dX11_paid_37 (by decide) (by omega) (by omega) (fun h37 => ?_) (fun h37 => ?_)
          · refine P_iconst (pc := 66) (x := nI 0) dX11_paid_66 (by decide) ?_
            refine P_istore (pc := 67) dX11_paid_67 (by decide) rfl ?_
            refine P_bipush (pc := 69) (x := (-4)) dX11_paid_69 (by decide) ?_
            refine P_istore (pc := 71) dX11_paid_71 (by decide) rfl ?_
            refine P_iconst (pc := 73) (x := nI 0) dX11_paid_73 (by decide) ?_
            refine P_istore (pc := 74) dX11_paid_74 (by decide) rfl ?_
            exact loop2 (2 ^ s 116 0 + 1) 0 J (Nat.lt_succ_of_le (Nat.sub_le _ _)) (Nat.zero_le _) hF (fun x hx => hZ x (by omega))
          · refine P_aload_n (pc := 40) dX11_paid_40 rfl ?_
            refine P_iload (pc := 41) dX11_paid_41 rfl ?_
            obtain ⟨_, K, _, ks, rfl, rfl, hK⟩ := c_send_36 (l := l) (D := D) hCJ hR (i := i) (by omega)
            refine P_callV (pc := 43) (S := []) (As := [_]) ks dX11_paid_43 ok_X11_send ml_X11_184 iv_X11_send ⟨by decide, by decide⟩ zret_v rfl ⟨rfl, by decide⟩ sh_0 ⟨by decide, rfl⟩ (Nat.le_of_ble_eq_true rfl) ?_
            refine P_aload_n (pc := 46) dX11_paid_46 rfl ?_
            refine P_getr (pc := 47) 11 12 dX11_paid_47 fl_X11_84 sh_0 fr_11_12 F_0_12 ?_
            refine P_iload (pc := 50) dX11_paid_50 rfl ?_
            refine P_aload_n (pc := 52) dX11_paid_52 rfl ?_
            refine P_getr (pc := 53) 11 4 dX11_paid_53 fl_X11_36 sh_0 fr_11_4 F_0_4 ?_
            refine P_geti (pc := 56) 9 5 (x := nI (zTxW s 0 i)) dX11_paid_56 fl_X11_200 sh_67 fi_9_5 (hK.2.2.2.2.1) ?_
            refine P_iast (pc := 59) (i) dX11_paid_59 sh_108 rfl (by omega) (by decide) ?_
            refine P_iincN (pc := 60) (c := 1) dX11_paid_60 rfl (by decide) (by decide) rfl ?_
            refine P_goto (pc := 63) (tgt := 34) dX11_paid_63 (by decide) ?_
            exact ih (i + 1) _ (by omega) (by omega) ((hF.trans hK.1.sc).trans (fun a ha => zu_o _ _ (by omega))) (fun x hx => by
              by_cases e : x = i
              · rw [e]; exact zu_s _ _ _ _
              · rw [zu_n _ _ e, hK.1 108 (by decide) (by decide) (by decide)]; exact hZ x (by omega))
      exact loop1 (s 116 0 + 1) 0 I (by omega) (by omega) zSc.rf (fun x hx => by omega)
    · refine P_iconst (pc := 18) (x := (-1)) dX11_paid_18 (by decide) ?_
      exact P_iret (pc := 19) dX11_paid_19 (⟨by unfold aPaid; rw [if_neg (by intro z; simp_all)], rfl, zSc.rf⟩)
set_option maxRecDepth 20000 in
theorem c_day11_36 {l : Launch} {D : va_G} {I : AI} {s : Nat → Nat → Nat} (hC : CR 36 s I) (hR : RInv s) {x y : Int32} : ZP l D zm_X11_day 0 (zent 9 [.ref 0, .int x, .int y]) [] I (zF 36) (fun v J G => v = some (aDay s x y) ∧ G = zF 36 ∧ zSc 36 I J) := by
  have hB1 := hC.st.2.1
  have hB2 := hC.wk.2.1
  have hB3 := hC.sg.2.1
  have hn1 := hR.1.2.2.2.2.2
  show ZP _ _ _ _ [some _, some _, some _, none, none, none, none, none, none] _ _ _ _
  refine P_iload_n (pc := 0) dX11_day_0 rfl ?_
  refine P_sipush (pc := 1) (x := nI 10000) dX11_day_1 (by decide) ?_
  obtain ⟨_, _, _, kw1, rfl, rfl, rfl⟩ := c_isWithin (l := l) (D := D) (tw := 36) (I := I) (x := x) (n := 10000) (by omega)
  refine P_callS (pc := 4) (S := []) (As := [_, _]) kw1 dX11_day_4 ok_X11_isWithin ml_X11_180 is_X11_isWithin ⟨by decide, by decide⟩ (zret_b (zix x 10000)) rfl ⟨rfl, by decide⟩ (Nat.le_of_ble_eq_true rfl) ?_
  refine P_if_eqB (pc := 7) (tgt := 18) dX11_day_7 (by decide) (fun h7 => ?_) (fun h7 => ?_)
  · refine P_iconst (pc := 18) (x := (-1)) dX11_day_18 (by decide) ?_
    exact P_iret (pc := 19) dX11_day_19 (⟨by unfold aDay; rw [if_neg (by intro z; simp_all)], rfl, zSc.rf⟩)
  · obtain ⟨z, hl_z, rfl⟩ := zix_t h7 (by omega)
    refine P_iload_n (pc := 10) dX11_day_10 rfl ?_
    refine P_iconst (pc := 11) (x := nI 2) dX11_day_11 (by decide) ?_
    obtain ⟨_, _, _, kw2, rfl, rfl, rfl⟩ := c_isWithin (l := l) (D := D) (tw := 36) (I := I) (x := y) (n := 2) (by omega)
    refine P_callS (pc := 12) (S := []) (As := [_, _]) kw2 dX11_day_12 ok_X11_isWithin ml_X11_180 is_X11_isWithin ⟨by decide, by decide⟩ (zret_b (zix y 2)) rfl ⟨rfl, by decide⟩ (Nat.le_of_ble_eq_true rfl) ?_
    refine P_if_neB (pc := 15) (tgt := 20) dX11_day_15 (by decide) (fun h15 => ?_) (fun h15 => ?_)
    · obtain ⟨j, hl_j, rfl⟩ := zix_t h15 (by omega)
      refine P_iconst (pc := 20) (x := nI 1) dX11_day_20 (by decide) ?_
      refine P_aload_n (pc := 21) dX11_day_21 rfl ?_
      refine P_getr (pc := 22) 11 2 dX11_day_22 fl_X11_26 sh_0 fr_11_2 F_0_2 ?_
      refine P_getr (pc := 25) 8 0 dX11_day_25 fl_X11_125 sh_36 fr_8_0 F_36_0 ?_
      refine P_geti (pc := 28) 6 0 (x := nI (s 111 0)) dX11_day_28 fl_X11_143 sh_37 fi_6_0 (hC.st.1) ?_
      refine P_mmaxN (pc := 31) dX11_day_31 mm_X11_302 (by decide) (Nat.le_of_ble_eq_true rfl) (by omega) (by omega) ?_
      rw [show max 1 (s 111 0) = s 111 0 by omega]
      refine P_istore_n (pc := 34) dX11_day_34 (by decide) rfl ?_
      refine P_iconst (pc := 35) (x := nI 0) dX11_day_35 (by decide) ?_
      refine P_istore (pc := 36) dX11_day_36 (by decide) rfl ?_
      refine P_iconst (pc := 38) (x := nI 0) dX11_day_38 (by decide) ?_
      refine P_istore (pc := 39) dX11_day_39 (by decide) rfl ?_
      refine P_iconst (pc := 41) (x := nI 0) dX11_day_41 (by decide) ?_
      refine P_istore (pc := 42) dX11_day_42 (by decide) rfl ?_
      have loop : ∀ (d : Nat) (i : Nat) (v7 v8 : Option Value) (J : AI), s 116 0 - i < d → i ≤ s 116 0 → zSc 36 I J → ZP l D zm_X11_day 44 [some (.ref 0), some (.int (nI z)), some (.int (nI j)), some (.int (nI (s 111 0))), some (.int (nI (zSum (fun i => (zDy s z i).2.2.2.1) i))), some (.int (nI (zSum (fun i => if (zDy s z i).2.2.2.2.1 = zDraw z i / 8 % s 111 0 then 1 else 0) i))), some (.int (nI i)), v7, v8] [] J (zF 36) (fun v J G => v = some (aDay s (nI z) (nI j)) ∧ G = zF 36 ∧ zSc 36 I J) := by
        intro d
        induction d with
        | zero =>
          intro i v7 v8 J hd
          exact absurd hd (by omega)
        | succ d ih =>
          intro i v7 v8 J hd hi hF
          have hCJ := hC.sc hF (Or.inr rfl)
          refine P_iload (pc := 44) dX11_day_44 rfl ?_
          refine P_aload_n (pc := 46) dX11_day_46 rfl ?_
          refine P_getr (pc := 47) 11 2 dX11_day_47 fl_X11_26 sh_0 fr_11_2 F_0_2 ?_
          refine P_getr (pc := 50) 8 2 dX11_day_50 fl_X11_116 sh_36 fr_8_2 F_36_2 ?_
          refine P_geti (pc := 53) 10 4 (x := nI (s 116 0)) dX11_day_53 fl_X11_120 sh_62 fi_10_4 (hCJ.wk.1) ?_
          refine P_icmp_geN (pc := 56) (tgt := 153) dX11_day_56 (by decide) (by first | omega | (have := hm1; omega)) (by first | omega | (have := hm1; omega)) (fun h56 => ?_) (fun h56 => ?_)
          · refine P_iload_n (pc := 153) dX11_day_153 rfl ?_
            refine P_if_neN (pc := 154) (tgt := 162) dX11_day_154 (by decide) (by first | omega | (have := hm1; omega)) (fun h154 => ?_) (fun h154 => ?_)
            · refine P_iload (pc := 162) dX11_day_162 rfl ?_
              refine P_iret (pc := 164) dX11_day_164 ?_
              have hi2 : i = s 116 0 := by omega
              subst hi2
              have ha : aDay s (nI z) (nI j) = if j = 0 then nI (zSum (fun i => (zDy s z i).2.2.2.1) (s 116 0)) else nI (zSum (fun i => if (zDy s z i).2.2.2.2.1 = zDraw z i / 8 % s 111 0 then 1 else 0) (s 116 0)) := by unfold aDay; rw [if_pos ⟨h7, h15⟩, nI_clamp (by omega), nI_clamp (by omega)]
              exact ⟨by rw [ha]; first | rw [if_pos (by omega)] | rw [if_neg (by omega)], rfl, hF⟩
            · refine P_iload (pc := 157) dX11_day_157 rfl ?_
              refine P_goto (pc := 159) (tgt := 164) dX11_day_159 (by decide) ?_
              refine P_iret (pc := 164) dX11_day_164 ?_
              have hi2 : i = s 116 0 := by omega
              subst hi2
              have ha : aDay s (nI z) (nI j) = if j = 0 then nI (zSum (fun i => (zDy s z i).2.2.2.1) (s 116 0)) else nI (zSum (fun i => if (zDy s z i).2.2.2.2.1 = zDraw z i / 8 % s 111 0 then 1 else 0) (s 116 0)) := by unfold aDay; rw [if_pos ⟨h7, h15⟩, nI_clamp (by omega), nI_clamp (by omega)]
              exact ⟨by rw [ha]; first | rw [if_pos (by omega)] | rw [if_neg (by omega)], rfl, hF⟩
          · refine P_iload_n (pc := 59) dX11_day_59 rfl ?_
            refine P_iload (pc := 60) dX11_day_60 rfl ?_
            obtain ⟨_, _, _, kd, rfl, rfl, rfl⟩ := c_drawOf (l := l) (D := D) (tw := 36) (I := J) (z := z) (i := i) (by omega) (by omega)
            have hdr : zDraw z i < 65521 := Nat.mod_lt _ (by decide)
            refine P_callS (pc := 62) (S := []) (As := [_, _]) kd dX11_day_62 ok_X11_drawOf ml_X11_305 is_X11_drawOf ⟨by decide, by decide⟩ (zret_i _) rfl ⟨rfl, by decide⟩ (Nat.le_of_ble_eq_true rfl) ?_
            refine P_istore (pc := 65) dX11_day_65 (by decide) rfl ?_
            refine P_iload (pc := 67) dX11_day_67 rfl ?_
            refine P_bipush (pc := 69) (x := nI 8) dX11_day_69 (by decide) ?_
            refine P_idivN (pc := 71) dX11_day_71 (by first | omega | (have := hm1; omega)) (by first | omega | (have := hm1; omega)) (by first | omega | (have := hm1; omega)) ?_
            refine P_iload_n (pc := 72) dX11_day_72 rfl ?_
            refine P_iremN (pc := 73) dX11_day_73 (by first | omega | (have := hm1; omega)) (by first | omega | (have := hm1; omega)) (by first | omega | (have := hm1; omega)) ?_
            refine P_istore (pc := 74) dX11_day_74 (by decide) rfl ?_
            refine P_aload_n (pc := 76) dX11_day_76 rfl ?_
            refine P_getr (pc := 77) 11 4 dX11_day_77 fl_X11_36 sh_0 fr_11_4 F_0_4 ?_
            refine P_aload_n (pc := 80) dX11_day_80 rfl ?_
            refine P_getr (pc := 81) 11 2 dX11_day_81 fl_X11_26 sh_0 fr_11_2 F_0_2 ?_
            refine P_aload_n (pc := 84) dX11_day_84 rfl ?_
            refine P_getr (pc := 85) 11 2 dX11_day_85 fl_X11_26 sh_0 fr_11_2 F_0_2 ?_
            refine P_getr (pc := 88) 8 1 dX11_day_88 fl_X11_156 sh_36 fr_8_1 F_36_1 ?_
            refine P_aload_n (pc := 91) dX11_day_91 rfl ?_
            refine P_getr (pc := 92) 11 2 dX11_day_92 fl_X11_26 sh_0 fr_11_2 F_0_2 ?_
            refine P_getr (pc := 95) 8 2 dX11_day_95 fl_X11_116 sh_36 fr_8_2 F_36_2 ?_
            refine P_getr (pc := 98) 10 0 dX11_day_98 fl_X11_170 sh_62 fr_10_0 F_62_0 ?_
            refine P_iload (pc := 101) dX11_day_101 rfl ?_
            refine P_iald (pc := 103) (i) (x := nI (s 117 i)) dX11_day_103 sh_63 rfl (by first | omega | (have := hm1; omega)) (by decide) ((hCJ.wk.2.2 _ (by omega)).1.1) ?_
            refine P_iload (pc := 104) dX11_day_104 rfl ?_
            refine P_iload_n (pc := 106) dX11_day_106 rfl ?_
            refine P_iremN (pc := 107) dX11_day_107 (by first | omega | (have := hm1; omega)) (by first | omega | (have := hm1; omega)) (by first | omega | (have := hm1; omega)) ?_
            refine P_iload (pc := 108) dX11_day_108 rfl ?_
            refine P_iload (pc := 110) dX11_day_110 rfl ?_
            have hb := hCJ.wk.2.2 i (by omega)
            have hm1 : zDraw z i % s 111 0 < s 111 0 := Nat.mod_lt _ (by omega)
            have hm2 : zDraw z i / 8 % s 111 0 < s 111 0 := Nat.mod_lt _ (by omega)
            obtain ⟨_, K, _, km, rfl, rfl, hK0⟩ := c_make_36_58 (l := l) (D := D) (tw := 36) (I := J) hCJ.st hCJ.sg hCJ.rt (kd := s 117 i) (fm := zDraw z i % s 111 0) (a := zDraw z i / 8 % s 111 0) (to := zDraw z i / 8 % s 111 0) hn1 hR.1.1.2.2.1 hb.2.1 (by omega) (by omega) (by omega)
            have hK : zMk (zDy s z i) (zDraw z i / 8 % s 111 0) J K := hK0
            refine P_callV (pc := 112) (S := []) (As := [_, _, _, _, _, _]) km dX11_day_112 ok_X9_make ml_X11_254 iv_X9_make ⟨by decide, by decide⟩ zret_v rfl ⟨rfl, by decide⟩ sh_67 ⟨by decide, rfl⟩ (Nat.le_of_ble_eq_true rfl) ?_
            refine P_iload (pc := 115) dX11_day_115 rfl ?_
            refine P_aload_n (pc := 117) dX11_day_117 rfl ?_
            refine P_getr (pc := 118) 11 4 dX11_day_118 fl_X11_36 sh_0 fr_11_4 F_0_4 ?_
            refine P_geti (pc := 121) 9 5 (x := nI ((zDy s z i).2.2.2.1)) dX11_day_121 fl_X11_200 sh_67 fi_9_5 (hK.2.2.2.2.1) ?_
            refine P_iaddN (pc := 124) dX11_day_124 ?_
            refine P_istore (pc := 125) dX11_day_125 (by decide) rfl ?_
            refine P_iload (pc := 127) dX11_day_127 rfl ?_
            refine P_aload_n (pc := 129) dX11_day_129 rfl ?_
            refine P_getr (pc := 130) 11 4 dX11_day_130 fl_X11_36 sh_0 fr_11_4 F_0_4 ?_
            refine P_geti (pc := 133) 9 6 (x := zb (decide ((zDy s z i).2.2.2.2.1 = zDraw z i / 8 % s 111 0))) dX11_day_133 fl_X11_203 sh_67 fi_9_6 (hK.2.2.2.2.2.1) ?_
            refine P_sel1 (pc := 136) (nI (if (zDy s z i).2.2.2.2.1 = zDraw z i / 8 % s 111 0 then 1 else 0)) 144 (fun k144_136 => ?_) ?_
            · refine P_if_eqB (pc := 136) (tgt := 143) dX11_day_136 (by decide) (fun h136 => ?_) (fun h136 => ?_)
              · refine P_iconst (pc := 143) (x := nI 0) dX11_day_143 (by decide) ?_
                exact k144_136 _ (by first | rw [if_neg (of_decide_eq_false h136)] | rw [if_pos (of_decide_eq_true h136)])
              · refine P_iconst (pc := 139) (x := nI 1) dX11_day_139 (by decide) ?_
                refine P_goto (pc := 140) (tgt := 144) dX11_day_140 (by decide) ?_
                exact k144_136 _ (by first | rw [if_neg (of_decide_eq_false h136)] | rw [if_pos (of_decide_eq_true h136)])
            · refine P_iaddN (pc := 144) dX11_day_144 ?_
              refine P_istore (pc := 145) dX11_day_145 (by decide) rfl ?_
              refine P_iincN (pc := 147) (c := 1) dX11_day_147 rfl (by decide) (by decide) rfl ?_
              refine P_goto (pc := 150) (tgt := 44) dX11_day_150 (by decide) ?_
              exact ih (i + 1) _ _ K (by omega) (by omega) (hF.trans hK.1.sc)
      exact loop (s 116 0 + 1) 0 none none I (by omega) (by omega) zSc.rf
    · refine P_iconst (pc := 18) (x := (-1)) dX11_day_18 (by decide) ?_
      exact P_iret (pc := 19) dX11_day_19 (⟨by unfold aDay; rw [if_neg (by intro z; simp_all)], rfl, zSc.rf⟩)
