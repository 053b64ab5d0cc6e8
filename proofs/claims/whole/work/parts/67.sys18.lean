theorem zLo_no {P : Nat → Bool} : ∀ {n : Nat}, (zLo P n).isSome = false → ∀ i, i < n → P i = false
  | 0, _, i, hi => by omega
  | n + 1, h, i, hi => by
    unfold zLo at h
    cases e : zLo P n with
    | some k => rw [e] at h; cases h
    | none =>
      rw [e] at h
      by_cases hp : P n = true
      · simp [hp] at h
      · by_cases e2 : i = n
        · rw [e2]; simpa using hp
        · exact zLo_no (by rw [e]; rfl) i (by omega)
set_option maxRecDepth 20000 in
theorem c_offerLures_5 {l : Launch} {D : va_G} {I : AI} {s : Nat → Nat → Nat} (hC : CR 5 s I) (hR : RInv s) (hS0 : CSg (s 122 0) (sgC s 0) (sgT s 0) (sgN s 0) I 70) {c b : Nat} {q : Nat × Option Nat} (hc : c < 8) (hb : b < 8) (hP0 : zPic I (pkQ q)) (hq0 : zLq (taxAt s 0) q) : ZP l D zm_X11_offerLures 0 (zent 7 [.ref 0, .int (nI c), .int (nI b), .int (nI (taxAt s 0))]) [] I (zF 5) (fun v J G => v = none ∧ G = zF 5 ∧ zSc 5 I J ∧ CSg (s 122 0) (sgC s 0) (sgT s 0) (sgN s 0) J 70 ∧ zPic J (pkQ (luN s c b (s 111 0) q)) ∧ zLq (taxAt s 0) (luN s c b (s 111 0) q)) := by
  have hB1 := hC.st.2.1
  have hB2 := hC.wk.2.1
  have hB3 := hC.sg.2.1
  have hm8 := hR.1.2.2.1.1
  have hnow : taxAt s 0 ≤ 3240 := taxAt_le hR.1.1 hR.1.2.1 hR.1.2.2.1.2
  have loop : ∀ (d : Nat) (n : Nat) (v6 : Option Value) (J : AI), s 111 0 - n < d → n ≤ s 111 0 → zSc 5 I J → CSg (s 122 0) (sgC s 0) (sgT s 0) (sgN s 0) J 70 → zPic J (pkQ (luN s c b n q)) → zLq (taxAt s 0) (luN s c b n q) → ZP l D zm_X11_offerLures 12 [some (.ref 0), some (.int (nI c)), some (.int (nI b)), some (.int (nI (taxAt s 0))), some (.int (nI (s 122 0))), some (.int (nI n)), v6] [] J (zF 5) (fun v J G => v = none ∧ G = zF 5 ∧ zSc 5 I J ∧ CSg (s 122 0) (sgC s 0) (sgT s 0) (sgN s 0) J 70 ∧ zPic J (pkQ (luN s c b (s 111 0) q)) ∧ zLq (taxAt s 0) (luN s c b (s 111 0) q)) := by
    intro d
    induction d with
    | zero =>
      intro n v6 J hd
      exact absurd hd (by omega)
    | succ d ih =>
      intro n v6 J hd hn hF hS hP hq
      have hCJ := hC.sc hF (Or.inl rfl)
      refine P_iload (pc := 12) dX11_offerLures_12 rfl ?_
      refine P_aload_n (pc := 14) dX11_offerLures_14 rfl ?_
      refine P_getr (pc := 15) 11 2 dX11_offerLures_15 fl_X11_26 sh_0 fr_11_2 F_0_2 ?_
      refine P_getr (pc := 18) 8 0 dX11_offerLures_18 fl_X11_125 sh_5 fr_8_0 F_5_0 ?_
      refine P_geti (pc := 21) 6 0 (x := nI (s 111 0)) dX11_offerLures_21 fl_X11_143 sh_6 fi_6_0 (hCJ.st.1) ?_
      refine P_icmp_geN (pc := 24) (tgt := 110) dX11_offerLures_24 (by decide) (by omega) (by omega) (fun h24 => ?_) (fun h24 => ?_)
      · refine P_ret (pc := 110) dX11_offerLures_110 ?_
        have hn2 : n = s 111 0 := by omega
        subst hn2
        exact ⟨rfl, rfl, hF, hS, hP, hq⟩
      · refine P_aload_n (pc := 27) dX11_offerLures_27 rfl ?_
        refine P_getr (pc := 28) 11 2 dX11_offerLures_28 fl_X11_26 sh_0 fr_11_2 F_0_2 ?_
        refine P_getr (pc := 31) 8 0 dX11_offerLures_31 fl_X11_125 sh_5 fr_8_0 F_5_0 ?_
        refine P_getr (pc := 34) 6 4 dX11_offerLures_34 fl_X11_150 sh_6 fr_6_4 F_6_4 ?_
        refine P_iload_n (pc := 37) dX11_offerLures_37 rfl ?_
        refine P_aald (pc := 38) (c) dX11_offerLures_38 sh_9 (by decide) rfl (by omega) (by decide) (Fr_9 _ (by omega)) ?_
        refine P_iload (pc := 39) dX11_offerLures_39 rfl ?_
        refine P_iald (pc := 41) (n) (x := nI (zln (s 123 (8 * c + n)))) dX11_offerLures_41 (shr_10 _ (by omega)) rfl (by omega) (by decide) (hCJ.st.2.2.1 _ _ (by omega) (by omega)) ?_
        have b1 := hC.st.2.2.2.2.1 (8 * c + n) (by omega)
        have b2 := zln_pos b1.1
        refine P_if_le (pc := 42) (tgt := 104) dX11_offerLures_42 (by decide) (fun h42 => ?_) (fun h42 => ?_)
        · refine P_iincN (pc := 104) (c := 1) dX11_offerLures_104 rfl (by decide) (by decide) rfl ?_
          refine P_goto (pc := 107) (tgt := 12) dX11_offerLures_107 (by decide) ?_
          have he : luN s c b (n + 1) q = luN s c b n q := by rw [luN, if_neg (fun z => by have h9 := (nI_le0 (by omega)).mp h42; have := b2.1.mpr z.1; omega)]
          have h9 := ih (n + 1) (v6) J (by omega) (by omega) hF hS
          rw [he] at h9
          exact h9 hP hq
        · refine P_aload_n (pc := 45) dX11_offerLures_45 rfl ?_
          refine P_getr (pc := 46) 11 5 dX11_offerLures_46 fl_X11_43 sh_0 fr_11_5 F_0_5 ?_
          refine P_iload (pc := 49) dX11_offerLures_49 rfl ?_
          refine P_iload_n (pc := 51) dX11_offerLures_51 rfl ?_
          refine P_iload_n (pc := 52) dX11_offerLures_52 rfl ?_
          refine P_iload (pc := 53) dX11_offerLures_53 rfl ?_
          obtain ⟨_, K1, _, ki, rfl, rfl, hi1, hi2⟩ := c_insert_70 (l := l) (D := D) (tw := 5) (I := J) hS (k := s 122 0) (c := c) (a := b) (n := n) (Nat.le_refl _) hm8 hc hb (by omega)
          have hC1 := (hC.sc hF (Or.inl rfl)).sc hi1.sc (Or.inl rfl)
          refine P_callV (pc := 55) (S := []) (As := [_, _, _, _]) ki dX11_offerLures_55 ok_X5_insert ml_X11_219 iv_X5_insert ⟨by decide, by decide⟩ zret_v rfl ⟨rfl, by decide⟩ sh_70 ⟨by decide, rfl⟩ (Nat.le_of_ble_eq_true rfl) ?_
          refine P_aload_n (pc := 58) dX11_offerLures_58 rfl ?_
          refine P_aload_n (pc := 59) dX11_offerLures_59 rfl ?_
          refine P_getr (pc := 60) 11 5 dX11_offerLures_60 fl_X11_43 sh_0 fr_11_5 F_0_5 ?_
          obtain ⟨_, K, _, kt, rfl, rfl, hK⟩ := c_taxBy_5_70 (l := l) (D := D) (I := K1) hC1.st (tr_put hm8 hi2) (CWk.c hC1.wk (fun i hi => ⟨rfl, rfl, rfl, (gPut_t hm8 (by omega) : sT s (gPut s c b n) 122 (352 + 28 + i) = s 122 (28 + i))⟩)) hC1.rt hR.1.2.2.2.2.2 hR.1.1.2.2.1
          have hzl : taxAt (sT s (gPut s c b n)) 352 ≤ 3240 := taxAt_le (s := sT s (gPut s c b n)) (b := 352) hR.1.1 hR.1.2.1 (gPut_k hm8 hc hb (by omega) hR.1.2.2.1.2 hR.1.2.1)
          refine P_callV (pc := 63) (S := []) (As := [_]) kt dX11_offerLures_63 ok_X11_taxBy ml_X11_210 iv_X11_taxBy ⟨by decide, by decide⟩ (zret_i _) rfl ⟨rfl, by decide⟩ sh_0 ⟨by decide, rfl⟩ (Nat.le_of_ble_eq_true rfl) ?_
          refine P_top (y := nI (taxAt (sT s (gPut s c b n)) 352)) rfl ?_
          refine P_istore (pc := 66) dX11_offerLures_66 (by decide) rfl ?_
          refine P_aload_n (pc := 68) dX11_offerLures_68 rfl ?_
          refine P_getr (pc := 69) 11 5 dX11_offerLures_69 fl_X11_43 sh_0 fr_11_5 F_0_5 ?_
          refine P_iload (pc := 72) dX11_offerLures_72 rfl ?_
          obtain ⟨_, K2, _, kr, rfl, rfl, hr1, hr2⟩ := c_remove_70 (l := l) (D := D) (tw := 5) (I := K) (hi2.tf hK hg_70) (k := s 122 0) (by omega)
          have hS2 : CSg (s 122 0) (sgC s 0) (sgT s 0) (sgN s 0) K2 70 := by
            rw [show s 122 0 + 1 - 1 = s 122 0 by omega] at hr2
            exact CSg.c hr2 (fun k hk => ⟨delins hk, delins hk, delins hk⟩)
          have hF2 : zSc 5 I K2 := ((hF.trans hi1.sc).trans hK.sc).trans hr1.sc
          have h97 : K2 97 = J 97 := (hr1 97 (by decide) (by decide) (by decide) (by decide)).trans ((hK 97 (by decide) (by decide) (by decide)).trans (hi1 97 (by decide) (by decide) (by decide) (by decide)))
          refine P_callV (pc := 74) (S := []) (As := [_]) kr dX11_offerLures_74 ok_X5_remove ml_X11_223 iv_X5_remove ⟨by decide, by decide⟩ zret_v rfl ⟨rfl, by decide⟩ sh_70 ⟨by decide, rfl⟩ (Nat.le_of_ble_eq_true rfl) ?_
          refine P_iload (pc := 77) dX11_offerLures_77 rfl ?_
          refine P_iload_n (pc := 79) dX11_offerLures_79 rfl ?_
          refine P_icmp_leN (pc := 80) (tgt := 104) dX11_offerLures_80 (by decide) (by omega) (by omega) (fun h80 => ?_) (fun h80 => ?_)
          · refine P_iincN (pc := 104) (c := 1) dX11_offerLures_104 rfl (by decide) (by decide) rfl ?_
            refine P_goto (pc := 107) (tgt := 12) dX11_offerLures_107 (by decide) ?_
            have h8 : s 123 (8 * c + n) < 10000 := b2.1.mp (by have h9 : ¬ zln (s 123 (8 * c + n)) = 0 := fun z => h42 ((nI_le0 (by omega)).mpr z); omega)
            have he : luN s c b (n + 1) q = luN s c b n q := by rw [luN, if_neg (fun z => by have z2 : (luN s c b n q).1 < taxAt (sT s (gPut s c b n)) 352 := z.2; have := hq.1; omega)]
            have h9 := ih (n + 1) (some (.int (nI (taxAt (sT s (gPut s c b n)) 352)))) K2 (by omega) (by omega) hF2 hS2
            rw [he] at h9
            exact h9 (hP.eq h97) hq
          · refine P_aload_n (pc := 83) dX11_offerLures_83 rfl ?_
            refine P_getr (pc := 84) 11 9 dX11_offerLures_84 fl_X11_71 sh_0 fr_11_9 F_0_9 ?_
            refine P_bipush (pc := 87) (x := nI 100) dX11_offerLures_87 (by decide) ?_
            refine P_iload_n (pc := 89) dX11_offerLures_89 rfl ?_
            refine P_imulN (pc := 90) dX11_offerLures_90 ?_
            refine P_bipush (pc := 91) (x := nI 10) dX11_offerLures_91 (by decide) ?_
            refine P_iload_n (pc := 93) dX11_offerLures_93 rfl ?_
            refine P_imulN (pc := 94) dX11_offerLures_94 ?_
            refine P_iaddN (pc := 95) dX11_offerLures_95 ?_
            refine P_iload (pc := 96) dX11_offerLures_96 rfl ?_
            refine P_iaddN (pc := 98) dX11_offerLures_98 ?_
            refine P_iload (pc := 99) dX11_offerLures_99 rfl ?_
            obtain ⟨_, Q, _, kq, rfl, rfl, hQ1, hQ2⟩ := c_offerMost (l := l) (D := D) (tw := 5) (I := K2) (hP.eq h97) (pkQ_b hq) (q := 100 * c + 10 * b + n) (u := nI (taxAt (sT s (gPut s c b n)) 352))
            refine P_callV (pc := 101) (S := []) (As := [_, _]) kq dX11_offerLures_101 ok_X1_offerMost ml_X11_268 iv_X1_offerMost ⟨by decide, by decide⟩ zret_v rfl ⟨rfl, by decide⟩ sh_97 ⟨by decide, rfl⟩ (Nat.le_of_ble_eq_true rfl) ?_
            refine P_iincN (pc := 104) (c := 1) dX11_offerLures_104 rfl (by decide) (by decide) rfl ?_
            refine P_goto (pc := 107) (tgt := 12) dX11_offerLures_107 (by decide) ?_
            have h8 : s 123 (8 * c + n) < 10000 := b2.1.mp (by have h9 : ¬ zln (s 123 (8 * c + n)) = 0 := fun z => h42 ((nI_le0 (by omega)).mpr z); omega)
            have he : luN s c b (n + 1) q = if (luN s c b n q).1 < taxAt (sT s (gPut s c b n)) 352 then (taxAt (sT s (gPut s c b n)) 352, some (100 * c + 10 * b + n)) else luN s c b n q := by
              rw [luN]
              by_cases e : (luN s c b n q).1 < taxAt (sT s (gPut s c b n)) 352
              · rw [if_pos ⟨h8, e⟩, if_pos e]; rfl
              · rw [if_neg (fun z => e z.2), if_neg e]
            have h9 := ih (n + 1) (some (.int (nI (taxAt (sT s (gPut s c b n)) 352)))) Q (by omega) (by omega) (hF2.trans hQ1.sc) (hS2.eq (hQ1 70 (by decide)) (hQ1 71 (by decide)) (hQ1 72 (by decide)) (hQ1 73 (by decide)))
            rw [he] at h9
            exact h9 (by rw [← pkQ_of hq hzl (by omega)]; exact hQ2) (zLq_of hq hzl (by omega))
  show ZP _ _ _ _ [some _, some _, some _, some _, none, none, none] _ _ _ _
  refine P_aload_n (pc := 0) dX11_offerLures_0 rfl ?_
  refine P_getr (pc := 1) 11 5 dX11_offerLures_1 fl_X11_43 sh_0 fr_11_5 F_0_5 ?_
  refine P_geti (pc := 4) 5 3 (x := nI (s 122 0)) dX11_offerLures_4 fl_X11_214 sh_70 fi_5_3 (hS0.1) ?_
  refine P_istore (pc := 7) dX11_offerLures_7 (by decide) rfl ?_
  refine P_iconst (pc := 9) (x := nI 0) dX11_offerLures_9 (by decide) ?_
  refine P_istore (pc := 10) dX11_offerLures_10 (by decide) rfl ?_
  exact loop (s 111 0 + 1) 0 none I (by omega) (by omega) zSc.rf hS0 hP0 hq0
set_option maxRecDepth 20000 in
theorem c_lure11_5 {l : Launch} {D : va_G} {I : AI} {s : Nat → Nat → Nat} (hC : CR 5 s I) (hR : RInv s) {x : Int32} : ZP l D zm_X11_lure 0 (zent 5 [.ref 0, .int x]) [] I (zF 5) (fun v J G => v = some (aLure s x) ∧ G = zF 5 ∧ zSc 5 I J) := by
  have hB1 := hC.st.2.1
  have hB2 := hC.wk.2.1
  have hB3 := hC.sg.2.1
  have hm8 := hR.1.2.2.1.1
  have hnow : taxAt s 0 ≤ 3240 := taxAt_le hR.1.1 hR.1.2.1 hR.1.2.2.1.2
  show ZP _ _ _ _ [some _, some _, none, none, none] _ _ _ _
  refine P_iload_n (pc := 0) dX11_lure_0 rfl ?_
  refine P_iconst (pc := 1) (x := nI 2) dX11_lure_1 (by decide) ?_
  obtain ⟨_, _, _, kw1, rfl, rfl, rfl⟩ := c_isWithin (l := l) (D := D) (tw := 5) (I := I) (x := x) (n := 2) (by omega)
  refine P_callS (pc := 2) (S := []) (As := [_, _]) kw1 dX11_lure_2 ok_X11_isWithin ml_X11_180 is_X11_isWithin ⟨by decide, by decide⟩ (zret_b (zix x 2)) rfl ⟨rfl, by decide⟩ (Nat.le_of_ble_eq_true rfl) ?_
  refine P_if_neB (pc := 5) (tgt := 10) dX11_lure_5 (by decide) (fun h5 => ?_) (fun h5 => ?_)
  · obtain ⟨j, hl_j, rfl⟩ := zix_t h5 (by omega)
    refine P_aload_n (pc := 10) dX11_lure_10 rfl ?_
    refine P_getr (pc := 11) 11 9 dX11_lure_11 fl_X11_71 sh_0 fr_11_9 F_0_9 ?_
    obtain ⟨_, K0, _, kc, rfl, rfl, hk1, hk2⟩ := c_pclear (l := l) (D := D) (tw := 5) (I := I)
    have hC0 := hC.sc hk1.sc (Or.inl rfl)
    refine P_callV (pc := 14) (S := []) (As := []) kc dX11_lure_14 ok_X1_clear ml_X11_235 iv_X1_clear ⟨by decide, by decide⟩ zret_v rfl ⟨rfl, by decide⟩ sh_97 ⟨by decide, rfl⟩ (Nat.le_of_ble_eq_true rfl) ?_
    refine P_aload_n (pc := 17) dX11_lure_17 rfl ?_
    refine P_aload_n (pc := 18) dX11_lure_18 rfl ?_
    refine P_getr (pc := 19) 11 2 dX11_lure_19 fl_X11_26 sh_0 fr_11_2 F_0_2 ?_
    refine P_getr (pc := 22) 8 1 dX11_lure_22 fl_X11_156 sh_5 fr_8_1 F_5_1 ?_
    obtain ⟨_, K1, _, kt, rfl, rfl, hK1⟩ := c_taxBy_5_27 (l := l) (D := D) (I := K0) hC0.st hC0.sg hC0.wk hC0.rt hR.1.2.2.2.2.2 hR.1.1.2.2.1
    have hC1 := hC0.sc hK1.sc (Or.inl rfl)
    refine P_callV (pc := 25) (S := []) (As := [_]) kt dX11_lure_25 ok_X11_taxBy ml_X11_210 iv_X11_taxBy ⟨by decide, by decide⟩ (zret_i _) rfl ⟨rfl, by decide⟩ sh_0 ⟨by decide, rfl⟩ (Nat.le_of_ble_eq_true rfl) ?_
    have hnw : zSum (fun i => (zTrip (zNx (s 111 0) (s 123) (s 124) (fun c => zSign (sgC s 0) (sgT s 0) (sgN s 0) c (s 119 i) (s 122 0)) (s 117 i) (s 119 i)) (fun c n => zOnB (s 123) (s 124) c n (s 122 (28 + i))) (s 123) (s 117 i) (s 120 0) (s 120 1) (s 120 2) (s 119 i) (s 118 i)).2.2.2.1) (s 116 0) = taxAt s 0 := zSum_congr (fun i hi => by unfold zTxW zTw; simp only [Nat.zero_add]; rfl)
    rw [hnw]
    refine P_istore_n (pc := 28) dX11_lure_28 (by decide) rfl ?_
    refine P_aload_n (pc := 29) dX11_lure_29 rfl ?_
    refine P_getr (pc := 30) 11 5 dX11_lure_30 fl_X11_43 sh_0 fr_11_5 F_0_5 ?_
    refine P_aload_n (pc := 33) dX11_lure_33 rfl ?_
    refine P_getr (pc := 34) 11 2 dX11_lure_34 fl_X11_26 sh_0 fr_11_2 F_0_2 ?_
    refine P_getr (pc := 37) 8 1 dX11_lure_37 fl_X11_156 sh_5 fr_8_1 F_5_1 ?_
    obtain ⟨_, K2, _, kp, rfl, rfl, hp1, hp2⟩ := c_copyFrom_70_27 (l := l) (D := D) (tw := 5) (I := K1) hC1.sg
    refine P_callV (pc := 40) (S := []) (As := [_]) kp dX11_lure_40 ok_X5_copyFrom ml_X11_236 iv_X5_copyFrom ⟨by decide, by decide⟩ zret_v rfl ⟨rfl, by decide⟩ sh_70 ⟨by decide, rfl⟩ (Nat.le_of_ble_eq_true rfl) ?_
    refine P_iconst (pc := 43) (x := nI 0) dX11_lure_43 (by decide) ?_
    refine P_istore_n (pc := 44) dX11_lure_44 (by decide) rfl ?_
    have loop : ∀ (d : Nat) (c : Nat) (v4 : Option Value) (J : AI), s 111 0 - c < d → c ≤ s 111 0 → zSc 5 I J → CSg (s 122 0) (sgC s 0) (sgT s 0) (sgN s 0) J 70 → zPic J (pkQ (luC s c (taxAt s 0, none))) → zLq (taxAt s 0) (luC s c (taxAt s 0, none)) → ZP l D zm_X11_lure 45 [some (.ref 0), some (.int (nI j)), some (.int (nI (taxAt s 0))), some (.int (nI c)), v4] [] J (zF 5) (fun v J G => v = some (aLure s (nI j)) ∧ G = zF 5 ∧ zSc 5 I J) := by
      intro d
      induction d with
      | zero =>
        intro c v4 J hd
        exact absurd hd (by omega)
      | succ d ih =>
        intro c v4 J hd hcn hF hS hP hq
        have hCJ := hC.sc hF (Or.inl rfl)
        refine P_iload_n (pc := 45) dX11_lure_45 rfl ?_
        refine P_aload_n (pc := 46) dX11_lure_46 rfl ?_
        refine P_getr (pc := 47) 11 2 dX11_lure_47 fl_X11_26 sh_0 fr_11_2 F_0_2 ?_
        refine P_getr (pc := 50) 8 0 dX11_lure_50 fl_X11_125 sh_5 fr_8_0 F_5_0 ?_
        refine P_geti (pc := 53) 6 0 (x := nI (s 111 0)) dX11_lure_53 fl_X11_143 sh_6 fi_6_0 (hCJ.st.1) ?_
        refine P_icmp_geN (pc := 56) (tgt := 118) dX11_lure_56 (by decide) (by omega) (by omega) (fun h56 => ?_) (fun h56 => ?_)
        · refine P_aload_n (pc := 118) dX11_lure_118 rfl ?_
          refine P_getr (pc := 119) 11 9 dX11_lure_119 fl_X11_71 sh_0 fr_11_9 F_0_9 ?_
          refine P_iload_n (pc := 122) dX11_lure_122 rfl ?_
          obtain ⟨_, _, _, ka, rfl, rfl, rfl⟩ := c_answer (l := l) (D := D) (tw := 5) (I := J) (pk := pkQ (luC s c (taxAt s 0, none))) hP (x := j) (by omega)
          refine P_callV (pc := 123) (S := []) (As := [_]) ka dX11_lure_123 ok_X1_answer ml_X11_247 iv_X1_answer ⟨by decide, by decide⟩ (zret_i _) rfl ⟨rfl, by decide⟩ sh_97 ⟨by decide, rfl⟩ (Nat.le_of_ble_eq_true rfl) ?_
          refine P_iret (pc := 126) dX11_lure_126 ?_
          have hc2 : c = s 111 0 := by omega
          subst hc2
          have ha : aLure s (nI j) = (match (zLu s).2 with | none => -4 | some m => if j = 0 then nI m else nI (zLu s).1) := by unfold aLure; rw [if_pos h5, nI_clamp (by omega)]; cases (zLu s).2 <;> rfl
          refine ⟨?_, rfl, hF⟩
          rw [ha]
          show some (if j = 0 then zp1 (pkQ (zLu s)) else zp2 (pkQ (zLu s))) = _
          unfold pkQ
          cases (zLu s).2 with
          | none => by_cases e : j = 0 <;> simp only [e, if_true, if_false] <;> rfl
          | some m => by_cases e : j = 0 <;> simp only [e, if_true, if_false] <;> rfl
        · refine P_iconst (pc := 59) (x := nI 0) dX11_lure_59 (by decide) ?_
          refine P_istore (pc := 60) dX11_lure_60 (by decide) rfl ?_
          obtain ⟨qC, hqC⟩ : ∃ qC, qC = luC s c (taxAt s 0, none) := ⟨_, rfl⟩
          have loopT : ∀ (e2 : Nat) (b : Nat) (J : AI), s 111 0 - b < e2 → b ≤ s 111 0 → zSc 5 I J → CSg (s 122 0) (sgC s 0) (sgT s 0) (sgN s 0) J 70 → zPic J (pkQ (luT s c b qC)) → zLq (taxAt s 0) (luT s c b qC) → ZP l D zm_X11_lure 62 [some (.ref 0), some (.int (nI j)), some (.int (nI (taxAt s 0))), some (.int (nI c)), some (.int (nI b))] [] J (zF 5) (fun v J G => v = some (aLure s (nI j)) ∧ G = zF 5 ∧ zSc 5 I J) := by
            intro e2
            induction e2 with
            | zero =>
              intro b J he2
              exact absurd he2 (by omega)
            | succ e2 ihT =>
              intro b J he2 hbn hF hS hP hq
              have hCJ := hC.sc hF (Or.inl rfl)
              refine P_iload (pc := 62) dX11_lure_62 rfl ?_
              refine P_aload_n (pc := 64) dX11_lure_64 rfl ?_
              refine P_getr (pc := 65) 11 2 dX11_lure_65 fl_X11_26 sh_0 fr_11_2 F_0_2 ?_
              refine P_getr (pc := 68) 8 0 dX11_lure_68 fl_X11_125 sh_5 fr_8_0 F_5_0 ?_
              refine P_geti (pc := 71) 6 0 (x := nI (s 111 0)) dX11_lure_71 fl_X11_143 sh_6 fi_6_0 (hCJ.st.1) ?_
              refine P_icmp_geN (pc := 74) (tgt := 112) dX11_lure_74 (by decide) (by omega) (by omega) (fun h74 => ?_) (fun h74 => ?_)
              · refine P_iincN (pc := 112) (c := 1) dX11_lure_112 rfl (by decide) (by decide) rfl ?_
                refine P_goto (pc := 115) (tgt := 45) dX11_lure_115 (by decide) ?_
                have hb2 : b = s 111 0 := by omega
                subst hb2
                rw [hqC] at hP hq
                exact ih (c + 1) _ J (by omega) (by omega) hF hS hP hq
              · refine P_iload_n (pc := 77) dX11_lure_77 rfl ?_
                refine P_iload (pc := 78) dX11_lure_78 rfl ?_
                refine P_icmp_eqN (pc := 80) (tgt := 106) dX11_lure_80 (by decide) (by omega) (by omega) (fun h80 => ?_) (fun h80 => ?_)
                · refine P_iincN (pc := 106) (c := 1) dX11_lure_106 rfl (by decide) (by decide) rfl ?_
                  refine P_goto (pc := 109) (tgt := 62) dX11_lure_109 (by decide) ?_
                  have he : luT s c (b + 1) qC = luT s c b qC := by rw [luT]; exact luN_id hq.1 (fun n => lure_same hm8 hB2 (Or.inl h80)) _
                  have h9 := ihT (b + 1) J (by omega) (by omega) hF hS
                  rw [he] at h9
                  exact h9 hP hq
                · refine P_aload_n (pc := 83) dX11_lure_83 rfl ?_
                  refine P_getr (pc := 84) 11 2 dX11_lure_84 fl_X11_26 sh_0 fr_11_2 F_0_2 ?_
                  refine P_getr (pc := 87) 8 2 dX11_lure_87 fl_X11_116 sh_5 fr_8_2 F_5_2 ?_
                  refine P_iload (pc := 90) dX11_lure_90 rfl ?_
                  obtain ⟨_, _, _, ky, rfl, rfl, rfl⟩ := c_anyStrangerTo_5 (l := l) (D := D) (tw := 5) (I := J) hCJ.wk (a := b) (by omega)
                  refine P_callV (pc := 92) (S := []) (As := [_]) ky dX11_lure_92 ok_X10_anyStrangerTo ml_X11_240 iv_X10_anyStrangerTo ⟨by decide, by decide⟩ (zret_b ((zLo (fun i => decide (s 117 i = 1 ∧ s 119 i = b)) (s 116 0)).isSome)) rfl ⟨rfl, by decide⟩ sh_31 ⟨by decide, rfl⟩ (Nat.le_of_ble_eq_true rfl) ?_
                  refine P_if_eqB (pc := 95) (tgt := 106) dX11_lure_95 (by decide) (fun h95 => ?_) (fun h95 => ?_)
                  · refine P_iincN (pc := 106) (c := 1) dX11_lure_106 rfl (by decide) (by decide) rfl ?_
                    refine P_goto (pc := 109) (tgt := 62) dX11_lure_109 (by decide) ?_
                    have he : luT s c (b + 1) qC = luT s c b qC := by rw [luT]; exact luN_id hq.1 (fun n => lure_same hm8 hB2 (Or.inr (fun i hi z => by have h9 := zLo_no h95 i hi; exact (of_decide_eq_false h9) z))) _
                    have h9 := ihT (b + 1) J (by omega) (by omega) hF hS
                    rw [he] at h9
                    exact h9 hP hq
                  · refine P_aload_n (pc := 98) dX11_lure_98 rfl ?_
                    refine P_iload_n (pc := 99) dX11_lure_99 rfl ?_
                    refine P_iload (pc := 100) dX11_lure_100 rfl ?_
                    refine P_iload_n (pc := 102) dX11_lure_102 rfl ?_
                    obtain ⟨_, K, _, kl, rfl, rfl, hl1, hl2, hl3, hl4⟩ := c_offerLures_5 (l := l) (D := D) (I := J) hCJ hR hS (c := c) (b := b) (q := luT s c b qC) (by omega) (by omega) hP hq
                    refine P_callV (pc := 103) (S := []) (As := [_, _, _]) kl dX11_lure_103 ok_X11_offerLures ml_X11_243 iv_X11_offerLures ⟨by decide, by decide⟩ zret_v rfl ⟨rfl, by decide⟩ sh_0 ⟨by decide, rfl⟩ (Nat.le_of_ble_eq_true rfl) ?_
                    refine P_iincN (pc := 106) (c := 1) dX11_lure_106 rfl (by decide) (by decide) rfl ?_
                    refine P_goto (pc := 109) (tgt := 62) dX11_lure_109 (by decide) ?_
                    exact ihT (b + 1) K (by omega) (by omega) (hF.trans hl1) hl2 hl3 hl4
          exact loopT (s 111 0 + 1) 0 J (by omega) (by omega) hF hS (by rw [hqC]; exact hP) (by rw [hqC]; exact hq)
    exact loop (s 111 0 + 1) 0 none K2 (by omega) (by omega) ((hk1.sc.trans hK1.sc).trans hp1.sc) hp2 (zPic.eq (zPic.eq hk2 (hK1 97 (by decide) (by decide) (by decide))) (hp1 97 (by decide) (by decide) (by decide) (by decide))) ⟨Nat.le_refl _, hnow, fun _ => rfl, fun m e => by cases e⟩
  · refine P_iconst (pc := 8) (x := (-1)) dX11_lure_8 (by decide) ?_
    exact P_iret (pc := 9) dX11_lure_9 (⟨by unfold aLure; rw [if_neg (by intro z; simp_all)], rfl, zSc.rf⟩)
set_option maxRecDepth 20000 in
theorem c_offerLures_36 {l : Launch} {D : va_G} {I : AI} {s : Nat → Nat → Nat} (hC : CR 36 s I) (hR : RInv s) (hS0 : CSg (s 122 0) (sgC s 0) (sgT s 0) (sgN s 0) I 70) {c b : Nat} {q : Nat × Option Nat} (hc : c < 8) (hb : b < 8) (hP0 : zPic I (pkQ q)) (hq0 : zLq (taxAt s 0) q) : ZP l D zm_X11_offerLures 0 (zent 7 [.ref 0, .int (nI c), .int (nI b), .int (nI (taxAt s 0))]) [] I (zF 36) (fun v J G => v = none ∧ G = zF 36 ∧ zSc 36 I J ∧ CSg (s 122 0) (sgC s 0) (sgT s 0) (sgN s 0) J 70 ∧ zPic J (pkQ (luN s c b (s 111 0) q)) ∧ zLq (taxAt s 0) (luN s c b (s 111 0) q)) := by
  have hB1 := hC.st.2.1
  have hB2 := hC.wk.2.1
  have hB3 := hC.sg.2.1
  have hm8 := hR.1.2.2.1.1
  have hnow : taxAt s 0 ≤ 3240 := taxAt_le hR.1.1 hR.1.2.1 hR.1.2.2.1.2
  have loop : ∀ (d : Nat) (n : Nat) (v6 : Option Value) (J : AI), s 111 0 - n < d → n ≤ s 111 0 → zSc 36 I J → CSg (s 122 0) (sgC s 0) (sgT s 0) (sgN s 0) J 70 → zPic J (pkQ (luN s c b n q)) → zLq (taxAt s 0) (luN s c b n q) → ZP l D zm_X11_offerLures 12 [some (.ref 0), some (.int (nI c)), some (.int (nI b)), some (.int (nI (taxAt s 0))), some (.int (nI (s 122 0))), some (.int (nI n)), v6] [] J (zF 36) (fun v J G => v = none ∧ G = zF 36 ∧ zSc 36 I J ∧ CSg (s 122 0) (sgC s 0) (sgT s 0) (sgN s 0) J 70 ∧ zPic J (pkQ (luN s c b (s 111 0) q)) ∧ zLq (taxAt s 0) (luN s c b (s 111 0) q)) := by
    intro d
    induction d with
    | zero =>
      intro n v6 J hd
      exact absurd hd (by omega)
    | succ d ih =>
      intro n v6 J hd hn hF hS hP hq
      have hCJ := hC.sc hF (Or.inr rfl)
      refine P_iload (pc := 12) dX11_offerLures_12 rfl ?_
      refine P_aload_n (pc := 14) dX11_offerLures_14 rfl ?_
      refine P_getr (pc := 15) 11 2 dX11_offerLures_15 fl_X11_26 sh_0 fr_11_2 F_0_2 ?_
      refine P_getr (pc := 18) 8 0 dX11_offerLures_18 fl_X11_125 sh_36 fr_8_0 F_36_0 ?_
      refine P_geti (pc := 21) 6 0 (x := nI (s 111 0)) dX11_offerLures_21 fl_X11_143 sh_37 fi_6_0 (hCJ.st.1) ?_
      refine P_icmp_geN (pc := 24) (tgt := 110) dX11_offerLures_24 (by decide) (by omega) (by omega) (fun h24 => ?_) (fun h24 => ?_)
      · refine P_ret (pc := 110) dX11_offerLures_110 ?_
        have hn2 : n = s 111 0 := by omega
        subst hn2
        exact ⟨rfl, rfl, hF, hS, hP, hq⟩
      · refine P_aload_n (pc := 27) dX11_offerLures_27 rfl ?_
        refine P_getr (pc := 28) 11 2 dX11_offerLures_28 fl_X11_26 sh_0 fr_11_2 F_0_2 ?_
        refine P_getr (pc := 31) 8 0 dX11_offerLures_31 fl_X11_125 sh_36 fr_8_0 F_36_0 ?_
        refine P_getr (pc := 34) 6 4 dX11_offerLures_34 fl_X11_150 sh_37 fr_6_4 F_37_4 ?_
        refine P_iload_n (pc := 37) dX11_offerLures_37 rfl ?_
        refine P_aald (pc := 38) (c) dX11_offerLures_38 sh_40 (by decide) rfl (by omega) (by decide) (Fr_40 _ (by omega)) ?_
        refine P_iload (pc := 39) dX11_offerLures_39 rfl ?_
        refine P_iald (pc := 41) (n) (x := nI (zln (s 123 (8 * c + n)))) dX11_offerLures_41 (shr_41 _ (by omega)) rfl (by omega) (by decide) (hCJ.st.2.2.1 _ _ (by omega) (by omega)) ?_
        have b1 := hC.st.2.2.2.2.1 (8 * c + n) (by omega)
        have b2 := zln_pos b1.1
        refine P_if_le (pc := 42) (tgt := 104) dX11_offerLures_42 (by decide) (fun h42 => ?_) (fun h42 => ?_)
        · refine P_iincN (pc := 104) (c := 1) dX11_offerLures_104 rfl (by decide) (by decide) rfl ?_
          refine P_goto (pc := 107) (tgt := 12) dX11_offerLures_107 (by decide) ?_
          have he : luN s c b (n + 1) q = luN s c b n q := by rw [luN, if_neg (fun z => by have h9 := (nI_le0 (by omega)).mp h42; have := b2.1.mpr z.1; omega)]
          have h9 := ih (n + 1) (v6) J (by omega) (by omega) hF hS
          rw [he] at h9
          exact h9 hP hq
        · refine P_aload_n (pc := 45) dX11_offerLures_45 rfl ?_
          refine P_getr (pc := 46) 11 5 dX11_offerLures_46 fl_X11_43 sh_0 fr_11_5 F_0_5 ?_
          refine P_iload (pc := 49) dX11_offerLures_49 rfl ?_
          refine P_iload_n (pc := 51) dX11_offerLures_51 rfl ?_
          refine P_iload_n (pc := 52) dX11_offerLures_52 rfl ?_
          refine P_iload (pc := 53) dX11_offerLures_53 rfl ?_
          obtain ⟨_, K1, _, ki, rfl, rfl, hi1, hi2⟩ := c_insert_70 (l := l) (D := D) (tw := 36) (I := J) hS (k := s 122 0) (c := c) (a := b) (n := n) (Nat.le_refl _) hm8 hc hb (by omega)
          have hC1 := (hC.sc hF (Or.inr rfl)).sc hi1.sc (Or.inr rfl)
          refine P_callV (pc := 55) (S := []) (As := [_, _, _, _]) ki dX11_offerLures_55 ok_X5_insert ml_X11_219 iv_X5_insert ⟨by decide, by decide⟩ zret_v rfl ⟨rfl, by decide⟩ sh_70 ⟨by decide, rfl⟩ (Nat.le_of_ble_eq_true rfl) ?_
          refine P_aload_n (pc := 58) dX11_offerLures_58 rfl ?_
          refine P_aload_n (pc := 59) dX11_offerLures_59 rfl ?_
          refine P_getr (pc := 60) 11 5 dX11_offerLures_60 fl_X11_43 sh_0 fr_11_5 F_0_5 ?_
          obtain ⟨_, K, _, kt, rfl, rfl, hK⟩ := c_taxBy_36_70 (l := l) (D := D) (I := K1) hC1.st (tr_put hm8 hi2) (CWk.c hC1.wk (fun i hi => ⟨rfl, rfl, rfl, (gPut_t hm8 (by omega) : sT s (gPut s c b n) 122 (352 + 28 + i) = s 122 (28 + i))⟩)) hC1.rt hR.1.2.2.2.2.2 hR.1.1.2.2.1
          have hzl : taxAt (sT s (gPut s c b n)) 352 ≤ 3240 := taxAt_le (s := sT s (gPut s c b n)) (b := 352) hR.1.1 hR.1.2.1 (gPut_k hm8 hc hb (by omega) hR.1.2.2.1.2 hR.1.2.1)
          refine P_callV (pc := 63) (S := []) (As := [_]) kt dX11_offerLures_63 ok_X11_taxBy ml_X11_210 iv_X11_taxBy ⟨by decide, by decide⟩ (zret_i _) rfl ⟨rfl, by decide⟩ sh_0 ⟨by decide, rfl⟩ (Nat.le_of_ble_eq_true rfl) ?_
          refine P_top (y := nI (taxAt (sT s (gPut s c b n)) 352)) rfl ?_
          refine P_istore (pc := 66) dX11_offerLures_66 (by decide) rfl ?_
          refine P_aload_n (pc := 68) dX11_offerLures_68 rfl ?_
          refine P_getr (pc := 69) 11 5 dX11_offerLures_69 fl_X11_43 sh_0 fr_11_5 F_0_5 ?_
          refine P_iload (pc := 72) dX11_offerLures_72 rfl ?_
          obtain ⟨_, K2, _, kr, rfl, rfl, hr1, hr2⟩ := c_remove_70 (l := l) (D := D) (tw := 36) (I := K) (hi2.tf hK hg_70) (k := s 122 0) (by omega)
          have hS2 : CSg (s 122 0) (sgC s 0) (sgT s 0) (sgN s 0) K2 70 := by
            rw [show s 122 0 + 1 - 1 = s 122 0 by omega] at hr2
            exact CSg.c hr2 (fun k hk => ⟨delins hk, delins hk, delins hk⟩)
          have hF2 : zSc 36 I K2 := ((hF.trans hi1.sc).trans hK.sc).trans hr1.sc
          have h97 : K2 97 = J 97 := (hr1 97 (by decide) (by decide) (by decide) (by decide)).trans ((hK 97 (by decide) (by decide) (by decide)).trans (hi1 97 (by decide) (by decide) (by decide) (by decide)))
          refine P_callV (pc := 74) (S := []) (As := [_]) kr dX11_offerLures_74 ok_X5_remove ml_X11_223 iv_X5_remove ⟨by decide, by decide⟩ zret_v rfl ⟨rfl, by decide⟩ sh_70 ⟨by decide, rfl⟩ (Nat.le_of_ble_eq_true rfl) ?_
          refine P_iload (pc := 77) dX11_offerLures_77 rfl ?_
          refine P_iload_n (pc := 79) dX11_offerLures_79 rfl ?_
          refine P_icmp_leN (pc := 80) (tgt := 104) dX11_offerLures_80 (by decide) (by omega) (by omega) (fun h80 => ?_) (fun h80 => ?_)
          · refine P_iincN (pc := 104) (c := 1) dX11_offerLures_104 rfl (by decide) (by decide) rfl ?_
            refine P_goto (pc := 107) (tgt := 12) dX11_offerLures_107 (by decide) ?_
            have h8 : s 123 (8 * c + n) < 10000 := b2.1.mp (by have h9 : ¬ zln (s 123 (8 * c + n)) = 0 := fun z => h42 ((nI_le0 (by omega)).mpr z); omega)
            have he : luN s c b (n + 1) q = luN s c b n q := by rw [luN, if_neg (fun z => by have z2 : (luN s c b n q).1 < taxAt (sT s (gPut s c b n)) 352 := z.2; have := hq.1; omega)]
            have h9 := ih (n + 1) (some (.int (nI (taxAt (sT s (gPut s c b n)) 352)))) K2 (by omega) (by omega) hF2 hS2
            rw [he] at h9
            exact h9 (hP.eq h97) hq
          · refine P_aload_n (pc := 83) dX11_offerLures_83 rfl ?_
            refine P_getr (pc := 84) 11 9 dX11_offerLures_84 fl_X11_71 sh_0 fr_11_9 F_0_9 ?_
            refine P_bipush (pc := 87) (x := nI 100) dX11_offerLures_87 (by decide) ?_
            refine P_iload_n (pc := 89) dX11_offerLures_89 rfl ?_
            refine P_imulN (pc := 90) dX11_offerLures_90 ?_
            refine P_bipush (pc := 91) (x := nI 10) dX11_offerLures_91 (by decide) ?_
            refine P_iload_n (pc := 93) dX11_offerLures_93 rfl ?_
            refine P_imulN (pc := 94) dX11_offerLures_94 ?_
            refine P_iaddN (pc := 95) dX11_offerLures_95 ?_
            refine P_iload (pc := 96) dX11_offerLures_96 rfl ?_
            refine P_iaddN (pc := 98) dX11_offerLures_98 ?_
            refine P_iload (pc := 99) dX11_offerLures_99 rfl ?_
            obtain ⟨_, Q, _, kq, rfl, rfl, hQ1, hQ2⟩ := c_offerMost (l := l) (D := D) (tw := 36) (I := K2) (hP.eq h97) (pkQ_b hq) (q := 100 * c + 10 * b + n) (u := nI (taxAt (sT s (gPut s c b n)) 352))
            refine P_callV (pc := 101) (S := []) (As := [_, _]) kq dX11_offerLures_101 ok_X1_offerMost ml_X11_268 iv_X1_offerMost ⟨by decide, by decide⟩ zret_v rfl ⟨rfl, by decide⟩ sh_97 ⟨by decide, rfl⟩ (Nat.le_of_ble_eq_true rfl) ?_
            refine P_iincN (pc := 104) (c := 1) dX11_offerLures_104 rfl (by decide) (by decide) rfl ?_
            refine P_goto (pc := 107) (tgt := 12) dX11_offerLures_107 (by decide) ?_
            have h8 : s 123 (8 * c + n) < 10000 := b2.1.mp (by have h9 : ¬ zln (s 123 (8 * c + n)) = 0 := fun z => h42 ((nI_le0 (by omega)).mpr z); omega)
            have he : luN s c b (n + 1) q = if (luN s c b n q).1 < taxAt (sT s (gPut s c b n)) 352 then (taxAt (sT s (gPut s c b n)) 352, some (100 * c + 10 * b + n)) else luN s c b n q := by
              rw [luN]
              by_cases e : (luN s c b n q).1 < taxAt (sT s (gPut s c b n)) 352
              · rw [if_pos ⟨h8, e⟩, if_pos e]; rfl
              · rw [if_neg (fun z => e z.2), if_neg e]
            have h9 := ih (n + 1) (some (.int (nI (taxAt (sT s (gPut s c b n)) 352)))) Q (by omega) (by omega) (hF2.trans hQ1.sc) (hS2.eq (hQ1 70 (by decide)) (hQ1 71 (by decide)) (hQ1 72 (by decide)) (hQ1 73 (by decide)))
            rw [he] at h9
            exact h9 (by rw [← pkQ_of hq hzl (by omega)]; exact hQ2) (zLq_of hq hzl (by omega))
  show ZP _ _ _ _ [some _, some _, some _, some _, none, none, none] _ _ _ _
  refine P_aload_n (pc := 0) dX11_offerLures_0 rfl ?_
  refine P_getr (pc := 1) 11 5 dX11_offerLures_1 fl_X11_43 sh_0 fr_11_5 F_0_5 ?_
  refine P_geti (pc := 4) 5 3 (x := nI (s 122 0)) dX11_offerLures_4 fl_X11_214 sh_70 fi_5_3 (hS0.1) ?_
  refine P_istore (pc := 7) dX11_offerLures_7 (by decide) rfl ?_
  refine P_iconst (pc := 9) (x := nI 0) dX11_offerLures_9 (by decide) ?_
  refine P_istore (pc := 10) dX11_offerLures_10 (by decide) rfl ?_
  exact loop (s 111 0 + 1) 0 none I (by omega) (by omega) zSc.rf hS0 hP0 hq0
set_option maxRecDepth 20000 in
theorem c_lure11_36 {l : Launch} {D : va_G} {I : AI} {s : Nat → Nat → Nat} (hC : CR 36 s I) (hR : RInv s) {x : Int32} : ZP l D zm_X11_lure 0 (zent 5 [.ref 0, .int x]) [] I (zF 36) (fun v J G => v = some (aLure s x) ∧ G = zF 36 ∧ zSc 36 I J) := by
  have hB1 := hC.st.2.1
  have hB2 := hC.wk.2.1
  have hB3 := hC.sg.2.1
  have hm8 := hR.1.2.2.1.1
  have hnow : taxAt s 0 ≤ 3240 := taxAt_le hR.1.1 hR.1.2.1 hR.1.2.2.1.2
  show ZP _ _ _ _ [some _, some _, none, none, none] _ _ _ _
  refine P_iload_n (pc := 0) dX11_lure_0 rfl ?_
  refine P_iconst (pc := 1) (x := nI 2) dX11_lure_1 (by decide) ?_
  obtain ⟨_, _, _, kw1, rfl, rfl, rfl⟩ := c_isWithin (l := l) (D := D) (tw := 36) (I := I) (x := x) (n := 2) (by omega)
  refine P_callS (pc := 2) (S := []) (As := [_, _]) kw1 dX11_lure_2 ok_X11_isWithin ml_X11_180 is_X11_isWithin ⟨by decide, by decide⟩ (zret_b (zix x 2)) rfl ⟨rfl, by decide⟩ (Nat.le_of_ble_eq_true rfl) ?_
  refine P_if_neB (pc := 5) (tgt := 10) dX11_lure_5 (by decide) (fun h5 => ?_) (fun h5 => ?_)
  · obtain ⟨j, hl_j, rfl⟩ := zix_t h5 (by omega)
    refine P_aload_n (pc := 10) dX11_lure_10 rfl ?_
    refine P_getr (pc := 11) 11 9 dX11_lure_11 fl_X11_71 sh_0 fr_11_9 F_0_9 ?_
    obtain ⟨_, K0, _, kc, rfl, rfl, hk1, hk2⟩ := c_pclear (l := l) (D := D) (tw := 36) (I := I)
    have hC0 := hC.sc hk1.sc (Or.inr rfl)
    refine P_callV (pc := 14) (S := []) (As := []) kc dX11_lure_14 ok_X1_clear ml_X11_235 iv_X1_clear ⟨by decide, by decide⟩ zret_v rfl ⟨rfl, by decide⟩ sh_97 ⟨by decide, rfl⟩ (Nat.le_of_ble_eq_true rfl) ?_
    refine P_aload_n (pc := 17) dX11_lure_17 rfl ?_
    refine P_aload_n (pc := 18) dX11_lure_18 rfl ?_
    refine P_getr (pc := 19) 11 2 dX11_lure_19 fl_X11_26 sh_0 fr_11_2 F_0_2 ?_
    refine P_getr (pc := 22) 8 1 dX11_lure_22 fl_X11_156 sh_36 fr_8_1 F_36_1 ?_
    obtain ⟨_, K1, _, kt, rfl, rfl, hK1⟩ := c_taxBy_36_58 (l := l) (D := D) (I := K0) hC0.st hC0.sg hC0.wk hC0.rt hR.1.2.2.2.2.2 hR.1.1.2.2.1
    have hC1 := hC0.sc hK1.sc (Or.inr rfl)
    refine P_callV (pc := 25) (S := []) (As := [_]) kt dX11_lure_25 ok_X11_taxBy ml_X11_210 iv_X11_taxBy ⟨by decide, by decide⟩ (zret_i _) rfl ⟨rfl, by decide⟩ sh_0 ⟨by decide, rfl⟩ (Nat.le_of_ble_eq_true rfl) ?_
    have hnw : zSum (fun i => (zTrip (zNx (s 111 0) (s 123) (s 124) (fun c => zSign (sgC s 0) (sgT s 0) (sgN s 0) c (s 119 i) (s 122 0)) (s 117 i) (s 119 i)) (fun c n => zOnB (s 123) (s 124) c n (s 122 (28 + i))) (s 123) (s 117 i) (s 120 0) (s 120 1) (s 120 2) (s 119 i) (s 118 i)).2.2.2.1) (s 116 0) = taxAt s 0 := zSum_congr (fun i hi => by unfold zTxW zTw; simp only [Nat.zero_add]; rfl)
    rw [hnw]
    refine P_istore_n (pc := 28) dX11_lure_28 (by decide) rfl ?_
    refine P_aload_n (pc := 29) dX11_lure_29 rfl ?_
    refine P_getr (pc := 30) 11 5 dX11_lure_30 fl_X11_43 sh_0 fr_11_5 F_0_5 ?_
    refine P_aload_n (pc := 33) dX11_lure_33 rfl ?_
    refine P_getr (pc := 34) 11 2 dX11_lure_34 fl_X11_26 sh_0 fr_11_2 F_0_2 ?_
    refine P_getr (pc := 37) 8 1 dX11_lure_37 fl_X11_156 sh_36 fr_8_1 F_36_1 ?_
    obtain ⟨_, K2, _, kp, rfl, rfl, hp1, hp2⟩ := c_copyFrom_70_58 (l := l) (D := D) (tw := 36) (I := K1) hC1.sg
    refine P_callV (pc := 40) (S := []) (As := [_]) kp dX11_lure_40 ok_X5_copyFrom ml_X11_236 iv_X5_copyFrom ⟨by decide, by decide⟩ zret_v rfl ⟨rfl, by decide⟩ sh_70 ⟨by decide, rfl⟩ (Nat.le_of_ble_eq_true rfl) ?_
    refine P_iconst (pc := 43) (x := nI 0) dX11_lure_43 (by decide) ?_
    refine P_istore_n (pc := 44) dX11_lure_44 (by decide) rfl ?_
    have loop : ∀ (d : Nat) (c : Nat) (v4 : Option Value) (J : AI), s 111 0 - c < d → c ≤ s 111 0 → zSc 36 I J → CSg (s 122 0) (sgC s 0) (sgT s 0) (sgN s 0) J 70 → zPic J (pkQ (luC s c (taxAt s 0, none))) → zLq (taxAt s 0) (luC s c (taxAt s 0, none)) → ZP l D zm_X11_lure 45 [some (.ref 0), some (.int (nI j)), some (.int (nI (taxAt s 0))), some (.int (nI c)), v4] [] J (zF 36) (fun v J G => v = some (aLure s (nI j)) ∧ G = zF 36 ∧ zSc 36 I J) := by
      intro d
      induction d with
      | zero =>
        intro c v4 J hd
        exact absurd hd (by omega)
      | succ d ih =>
        intro c v4 J hd hcn hF hS hP hq
        have hCJ := hC.sc hF (Or.inr rfl)
        refine P_iload_n (pc := 45) dX11_lure_45 rfl ?_
        refine P_aload_n (pc := 46) dX11_lure_46 rfl ?_
        refine P_getr (pc := 47) 11 2 dX11_lure_47 fl_X11_26 sh_0 fr_11_2 F_0_2 ?_
        refine P_getr (pc := 50) 8 0 dX11_lure_50 fl_X11_125 sh_36 fr_8_0 F_36_0 ?_
        refine P_geti (pc := 53) 6 0 (x := nI (s 111 0)) dX11_lure_53 fl_X11_143 sh_37 fi_6_0 (hCJ.st.1) ?_
        refine P_icmp_geN (pc := 56) (tgt := 118) dX11_lure_56 (by decide) (by omega) (by omega) (fun h56 => ?_) (fun h56 => ?_)
        · refine P_aload_n (pc := 118) dX11_lure_118 rfl ?_
          refine P_getr (pc := 119) 11 9 dX11_lure_119 fl_X11_71 sh_0 fr_11_9 F_0_9 ?_
          refine P_iload_n (pc := 122) dX11_lure_122 rfl ?_
          obtain ⟨_, _, _, ka, rfl, rfl, rfl⟩ := c_answer (l := l) (D := D) (tw := 36) (I := J) (pk := pkQ (luC s c (taxAt s 0, none))) hP (x := j) (by omega)
          refine P_callV (pc := 123) (S := []) (As := [_]) ka dX11_lure_123 ok_X1_answer ml_X11_247 iv_X1_answer ⟨by decide, by decide⟩ (zret_i _) rfl ⟨rfl, by decide⟩ sh_97 ⟨by decide, rfl⟩ (Nat.le_of_ble_eq_true rfl) ?_
          refine P_iret (pc := 126) dX11_lure_126 ?_
          have hc2 : c = s 111 0 := by omega
          subst hc2
          have ha : aLure s (nI j) = (match (zLu s).2 with | none => -4 | some m => if j = 0 then nI m else nI (zLu s).1) := by unfold aLure; rw [if_pos h5, nI_clamp (by omega)]; cases (zLu s).2 <;> rfl
          refine ⟨?_, rfl, hF⟩
          rw [ha]
          show some (if j = 0 then zp1 (pkQ (zLu s)) else zp2 (pkQ (zLu s))) = _
          unfold pkQ
          cases (zLu s).2 with
          | none => by_cases e : j = 0 <;> simp only [e, if_true, if_false] <;> rfl
          | some m => by_cases e : j = 0 <;> simp only [e, if_true, if_false] <;> rfl
        · refine P_iconst (pc := 59) (x := nI 0) dX11_lure_59 (by decide) ?_
          refine P_istore (pc := 60) dX11_lure_60 (by decide) rfl ?_
          obtain ⟨qC, hqC⟩ : ∃ qC, qC = luC s c (taxAt s 0, none) := ⟨_, rfl⟩
          have loopT : ∀ (e2 : Nat) (b : Nat) (J : AI), s 111 0 - b < e2 → b ≤ s 111 0 → zSc 36 I J → CSg (s 122 0) (sgC s 0) (sgT s 0) (sgN s 0) J 70 → zPic J (pkQ (luT s c b qC)) → zLq (taxAt s 0) (luT s c b qC) → ZP l D zm_X11_lure 62 [some (.ref 0), some (.int (nI j)), some (.int (nI (taxAt s 0))), some (.int (nI c)), some (.int (nI b))] [] J (zF 36) (fun v J G => v = some (aLure s (nI j)) ∧ G = zF 36 ∧ zSc 36 I J) := by
            intro e2
            induction e2 with
            | zero =>
              intro b J he2
              exact absurd he2 (by omega)
            | succ e2 ihT =>
              intro b J he2 hbn hF hS hP hq
              have hCJ := hC.sc hF (Or.inr rfl)
              refine P_iload (pc := 62) dX11_lure_62 rfl ?_
              refine P_aload_n (pc := 64) dX11_lure_64 rfl ?_
              refine P_getr (pc := 65) 11 2 dX11_lure_65 fl_X11_26 sh_0 fr_11_2 F_0_2 ?_
              refine P_getr (pc := 68) 8 0 dX11_lure_68 fl_X11_125 sh_36 fr_8_0 F_36_0 ?_
              refine P_geti (pc := 71) 6 0 (x := nI (s 111 0)) dX11_lure_71 fl_X11_143 sh_37 fi_6_0 (hCJ.st.1) ?_
              refine P_icmp_geN (pc := 74) (tgt := 112) dX11_lure_74 (by decide) (by omega) (by omega) (fun h74 => ?_) (fun h74 => ?_)
              · refine P_iincN (pc := 112) (c := 1) dX11_lure_112 rfl (by decide) (by decide) rfl ?_
                refine P_goto (pc := 115) (tgt := 45) dX11_lure_115 (by decide) ?_
                have hb2 : b = s 111 0 := by omega
                subst hb2
                rw [hqC] at hP hq
                exact ih (c + 1) _ J (by omega) (by omega) hF hS hP hq
              · refine P_iload_n (pc := 77) dX11_lure_77 rfl ?_
                refine P_iload (pc := 78) dX11_lure_78 rfl ?_
                refine P_icmp_eqN (pc := 80) (tgt := 106) dX11_lure_80 (by decide) (by omega) (by omega) (fun h80 => ?_) (fun h80 => ?_)
                · refine P_iincN (pc := 106) (c := 1) dX11_lure_106 rfl (by decide) (by decide) rfl ?_
                  refine P_goto (pc := 109) (tgt := 62) dX11_lure_109 (by decide) ?_
                  have he : luT s c (b + 1) qC = luT s c b qC := by rw [luT]; exact luN_id hq.1 (fun n => lure_same hm8 hB2 (Or.inl h80)) _
                  have h9 := ihT (b + 1) J (by omega) (by omega) hF hS
                  rw [he] at h9
                  exact h9 hP hq
                · refine P_aload_n (pc := 83) dX11_lure_83 rfl ?_
                  refine P_getr (pc := 84) 11 2 dX11_lure_84 fl_X11_26 sh_0 fr_11_2 F_0_2 ?_
                  refine P_getr (pc := 87) 8 2 dX11_lure_87 fl_X11_116 sh_36 fr_8_2 F_36_2 ?_
                  refine P_iload (pc := 90) dX11_lure_90 rfl ?_
                  obtain ⟨_, _, _, ky, rfl, rfl, rfl⟩ := c_anyStrangerTo_36 (l := l) (D := D) (tw := 36) (I := J) hCJ.wk (a := b) (by omega)
                  refine P_callV (pc := 92) (S := []) (As := [_]) ky dX11_lure_92 ok_X10_anyStrangerTo ml_X11_240 iv_X10_anyStrangerTo ⟨by decide, by decide⟩ (zret_b ((zLo (fun i => decide (s 117 i = 1 ∧ s 119 i = b)) (s 116 0)).isSome)) rfl ⟨rfl, by decide⟩ sh_62 ⟨by decide, rfl⟩ (Nat.le_of_ble_eq_true rfl) ?_
                  refine P_if_eqB (pc := 95) (tgt := 106) dX11_lure_95 (by decide) (fun h95 => ?_) (fun h95 => ?_)
                  · refine P_iincN (pc := 106) (c := 1) dX11_lure_106 rfl (by decide) (by decide) rfl ?_
                    refine P_goto (pc := 109) (tgt := 62) dX11_lure_109 (by decide) ?_
                    have he : luT s c (b + 1) qC = luT s c b qC := by rw [luT]; exact luN_id hq.1 (fun n => lure_same hm8 hB2 (Or.inr (fun i hi z => by have h9 := zLo_no h95 i hi; exact (of_decide_eq_false h9) z))) _
                    have h9 := ihT (b + 1) J (by omega) (by omega) hF hS
                    rw [he] at h9
                    exact h9 hP hq
                  · refine P_aload_n (pc := 98) dX11_lure_98 rfl ?_
                    refine P_iload_n (pc := 99) dX11_lure_99 rfl ?_
                    refine P_iload (pc := 100) dX11_lure_100 rfl ?_
                    refine P_iload_n (pc := 102) dX11_lure_102 rfl ?_
                    obtain ⟨_, K, _, kl, rfl, rfl, hl1, hl2, hl3, hl4⟩ := c_offerLures_36 (l := l) (D := D) (I := J) hCJ hR hS (c := c) (b := b) (q := luT s c b qC) (by omega) (by omega) hP hq
                    refine P_callV (pc := 103) (S := []) (As := [_, _, _]) kl dX11_lure_103 ok_X11_offerLures ml_X11_243 iv_X11_offerLures ⟨by decide, by decide⟩ zret_v rfl ⟨rfl, by decide⟩ sh_0 ⟨by decide, rfl⟩ (Nat.le_of_ble_eq_true rfl) ?_
                    refine P_iincN (pc := 106) (c := 1) dX11_lure_106 rfl (by decide) (by decide) rfl ?_
                    refine P_goto (pc := 109) (tgt := 62) dX11_lure_109 (by decide) ?_
                    exact ihT (b + 1) K (by omega) (by omega) (hF.trans hl1) hl2 hl3 hl4
          exact loopT (s 111 0 + 1) 0 J (by omega) (by omega) hF hS (by rw [hqC]; exact hP) (by rw [hqC]; exact hq)
    exact loop (s 111 0 + 1) 0 none K2 (by omega) (by omega) ((hk1.sc.trans hK1.sc).trans hp1.sc) hp2 (zPic.eq (zPic.eq hk2 (hK1 97 (by decide) (by decide) (by decide))) (hp1 97 (by decide) (by decide) (by decide) (by decide))) ⟨Nat.le_refl _, hnow, fun _ => rfl, fun m e => by cases e⟩
  · refine P_iconst (pc := 8) (x := (-1)) dX11_lure_8 (by decide) ?_
    exact P_iret (pc := 9) dX11_lure_9 (⟨by unfold aLure; rw [if_neg (by intro z; simp_all)], rfl, zSc.rf⟩)
