set_option maxRecDepth 20000 in
theorem c_measure_5_18 {l : Launch} {D : va_G} {tw : Nat} {I : AI} {nc m : Nat} {sa sb sl : Nat → Nat} (hC : CSr nc m sa sb sl I 5) {w : Option Nat} (hwb : ∀ q, w = some q → q < 2 ^ 31) : ZP l D zm_X6_measure 0 (zent 6 [.ref 6, .ref 18, .int (zo (-1) w)]) [] I (zF tw) (fun v J G => v = none ∧ G = zF tw ∧ zRf 19 I J ∧ zRw 19 (fun a b => zFar (zNr sa sb sl w m) (8 * a + b)) J) := by
  have hnc8 := hC.2.1
  have hm12 := hC.2.2.2.1
  have loop3 : ∀ (d : Nat) (v : Nat) (v4 v5 : Option Value) (J : AI), nc - v < d → v ≤ nc → zRf 19 I J → zRw 19 (zD (zNr sa sb sl w m) v) J → ZP l D zm_X6_measure 101 [some (.ref 6), some (.ref 18), some (.int (zo (-1) w)), some (.int (nI v)), v4, v5] [] J (zF tw) (fun v J G => v = none ∧ G = zF tw ∧ zRf 19 I J ∧ zRw 19 (fun a b => zFar (zNr sa sb sl w m) (8 * a + b)) J) := by
    intro d
    induction d with
    | zero =>
      intro v v4 v5 J hd
      exact absurd hd (by omega)
    | succ d ih =>
      intro v v4 v5 J hd hv hF hR
      refine P_iload_n (pc := 101) dX6_measure_101 rfl ?_
      refine P_aload_n (pc := 102) dX6_measure_102 rfl ?_
      refine P_geti (pc := 103) 6 0 (x := nI (nc)) dX6_measure_103 fl_X6_26 sh_6 fi_6_0 ((congrFun (hF 6 (by omega)) 0).trans hC.1) ?_
      refine P_icmp_geN (pc := 106) (tgt := 121) dX6_measure_106 (by decide) (by omega) (by omega) (fun h106 => ?_) (fun h106 => ?_)
      · refine P_ret (pc := 121) dX6_measure_121 ?_
        have hv2 : v = nc := by omega
        subst hv2
        exact ⟨rfl, rfl, hF, hR.c (fun a b ha hb => zFar_nc (hC.ng (Nat.le_refl _)) hC.2.1 ha hb)⟩
      · refine P_aload_n (pc := 109) dX6_measure_109 rfl ?_
        refine P_aload_n (pc := 110) dX6_measure_110 rfl ?_
        refine P_iload_n (pc := 111) dX6_measure_111 rfl ?_
        obtain ⟨_, K, _, k1, rfl, rfl, hK1, hK2⟩ := c_shortenBy_5_18 (l := l) (D := D) (tw := tw) (I := J) (nc := nc) (m := v) (nr := zNr sa sb sl w m) ((congrFun (hF 6 (by omega)) 0).trans hC.1) hC.2.1 (hC.ng (Nat.le_refl _)) (by omega) hR
        refine P_callV (pc := 112) (S := []) (As := [_, _]) k1 dX6_measure_112 ok_X6_shortenBy ml_X6_39 iv_X6_shortenBy ⟨by decide, by decide⟩ zret_v rfl ⟨rfl, by decide⟩ sh_6 ⟨by decide, rfl⟩ (Nat.le_of_ble_eq_true rfl) ?_
        refine P_iincN (pc := 115) (c := 1) dX6_measure_115 rfl (by decide) (by decide) rfl ?_
        refine P_goto (pc := 118) (tgt := 101) dX6_measure_118 (by decide) ?_
        exact ih (v + 1) _ _ K (by omega) (by omega) (hF.trans hK1) hK2
  have loop2 : ∀ (d : Nat) (k : Nat) (v4 v5 : Option Value) (J : AI), m - k < d → k ≤ m → zRf 19 I J → zRw 19 (zSm sa sb sl w k) J → ZP l D zm_X6_measure 30 [some (.ref 6), some (.ref 18), some (.int (zo (-1) w)), some (.int (nI k)), v4, v5] [] J (zF tw) (fun v J G => v = none ∧ G = zF tw ∧ zRf 19 I J ∧ zRw 19 (fun a b => zFar (zNr sa sb sl w m) (8 * a + b)) J) := by
    intro d
    induction d with
    | zero =>
      intro k v4 v5 J hd
      exact absurd hd (by omega)
    | succ d ih =>
      intro k v4 v5 J hd hk hF hR
      refine P_iload_n (pc := 30) dX6_measure_30 rfl ?_
      refine P_aload_n (pc := 31) dX6_measure_31 rfl ?_
      refine P_geti (pc := 32) 6 1 (x := nI (m)) dX6_measure_32 fl_X6_30 sh_6 fi_6_1 ((congrFun (hF 6 (by omega)) 1).trans hC.2.2.1) ?_
      refine P_icmp_geN (pc := 35) (tgt := 99) dX6_measure_35 (by decide) (by omega) (by omega) (fun h35 => ?_) (fun h35 => ?_)
      · refine P_iconst (pc := 99) (x := nI 0) dX6_measure_99 (by decide) ?_
        refine P_istore_n (pc := 100) dX6_measure_100 (by decide) rfl ?_
        have hk2 : k = m := by omega
        subst hk2
        exact loop3 (nc + 1) 0 _ _ J (by omega) (by omega) hF (hR.c (fun a b _ _ => rfl))
      · have hs := (hC.2.2.2.2 k (by omega)).2
        refine P_aload_n (pc := 38) dX6_measure_38 rfl ?_
        refine P_getr (pc := 39) 6 2 dX6_measure_39 fl_X6_9 sh_6 fr_6_2 F_6_2 ?_
        refine P_iload_n (pc := 42) dX6_measure_42 rfl ?_
        refine P_iald (pc := 43) (k) (x := nI (sa k)) dX6_measure_43 sh_7 rfl (by omega) (by decide) ((congrFun (hF 7 (by omega)) _).trans (hC.2.2.2.2 k (by omega)).1.1) ?_
        refine P_istore (pc := 44) dX6_measure_44 (by decide) rfl ?_
        refine P_aload_n (pc := 46) dX6_measure_46 rfl ?_
        refine P_getr (pc := 47) 6 3 dX6_measure_47 fl_X6_15 sh_6 fr_6_3 F_6_3 ?_
        refine P_iload_n (pc := 50) dX6_measure_50 rfl ?_
        refine P_iald (pc := 51) (k) (x := nI (sb k)) dX6_measure_51 sh_8 rfl (by omega) (by decide) ((congrFun (hF 8 (by omega)) _).trans (hC.2.2.2.2 k (by omega)).1.2.1) ?_
        refine P_istore (pc := 52) dX6_measure_52 (by decide) rfl ?_
        refine P_iload_n (pc := 54) dX6_measure_54 rfl ?_
        refine P_iload_n (pc := 55) dX6_measure_55 rfl ?_
        refine P_icmp_eq (pc := 56) (tgt := 93) dX6_measure_56 (by decide) (fun h56 => ?_) (fun h56 => ?_)
        · refine P_iincN (pc := 93) (c := 1) dX6_measure_93 rfl (by decide) (by decide) rfl ?_
          refine P_goto (pc := 96) (tgt := 30) dX6_measure_96 (by decide) ?_
          exact ih (k + 1) _ _ J (by omega) (by omega) hF (hR.c (fun a b _ _ => zSm_w ((zo_eq1 (by omega) hwb).mp h56)))
        · refine P_aload_n (pc := 59) dX6_measure_59 rfl ?_
          refine P_iload (pc := 60) dX6_measure_60 rfl ?_
          refine P_aald (pc := 62) ((sa k)) dX6_measure_62 sh_18 (by decide) rfl (by omega) (by decide) (Fr_18 _ (by omega)) ?_
          refine P_iload (pc := 63) dX6_measure_63 rfl ?_
          refine P_aload_n (pc := 65) dX6_measure_65 rfl ?_
          refine P_getr (pc := 66) 6 4 dX6_measure_66 fl_X6_20 sh_6 fr_6_4 F_6_4 ?_
          refine P_iload (pc := 69) dX6_measure_69 rfl ?_
          refine P_aald (pc := 71) ((sa k)) dX6_measure_71 sh_9 (by decide) rfl (by omega) (by decide) (Fr_9 _ (by omega)) ?_
          refine P_iload (pc := 72) dX6_measure_72 rfl ?_
          refine P_iald (pc := 74) ((sb k)) (x := nI (sl k)) dX6_measure_74 (shr_10 _ (by omega)) rfl (by omega) (by decide) ((congrFun ((by first | exact hF | exact hF.u (by omega) : zRf 19 I _) _ (by omega)) _).trans (hC.2.2.2.2 k (by omega)).1.2.2) ?_
          refine P_iast (pc := 75) ((sb k)) dX6_measure_75 (shr_19 _ (by omega)) rfl (by omega) (by decide) ?_
          refine P_aload_n (pc := 76) dX6_measure_76 rfl ?_
          refine P_iload (pc := 77) dX6_measure_77 rfl ?_
          refine P_aald (pc := 79) ((sb k)) dX6_measure_79 sh_18 (by decide) rfl (by omega) (by decide) (Fr_18 _ (by omega)) ?_
          refine P_iload (pc := 80) dX6_measure_80 rfl ?_
          refine P_aload_n (pc := 82) dX6_measure_82 rfl ?_
          refine P_getr (pc := 83) 6 4 dX6_measure_83 fl_X6_20 sh_6 fr_6_4 F_6_4 ?_
          refine P_iload (pc := 86) dX6_measure_86 rfl ?_
          refine P_aald (pc := 88) ((sa k)) dX6_measure_88 sh_9 (by decide) rfl (by omega) (by decide) (Fr_9 _ (by omega)) ?_
          refine P_iload (pc := 89) dX6_measure_89 rfl ?_
          refine P_iald (pc := 91) ((sb k)) (x := nI (sl k)) dX6_measure_91 (shr_10 _ (by omega)) rfl (by omega) (by decide) ((congrFun ((by first | exact hF | exact hF.u (by omega) : zRf 19 I _) _ (by omega)) _).trans (hC.2.2.2.2 k (by omega)).1.2.2) ?_
          refine P_iast (pc := 92) ((sa k)) dX6_measure_92 (shr_19 _ (by omega)) rfl (by omega) (by decide) ?_
          refine P_iincN (pc := 93) (c := 1) dX6_measure_93 rfl (by decide) (by decide) rfl ?_
          refine P_goto (pc := 96) (tgt := 30) dX6_measure_96 (by decide) ?_
          exact ih (k + 1) _ _ _ (by omega) (by omega) ((hF.u (by omega)).u (by omega)) ((hR.u (by omega) (by omega) (by rw [zSh_1 hs.1, zds_lt (by omega)]) (fun a b ha hb e => zSh_o ha hb (by omega) (by omega) e)).u (by omega) (by omega) (by rw [zSm_1 (fun z => h56 ((zo_eq1 (by omega) hwb).mpr z)) hs.1, zds_lt (by omega)]) (fun a b ha hb e => zSm_o (fun z => h56 ((zo_eq1 (by omega) hwb).mpr z)) ha hb (by omega) (by omega) e))
  have loop1 : ∀ (d : Nat) (c : Nat) (J : AI), 8 - c < d → c ≤ 8 → zRf 19 I J → (∀ a b, a < c → b < 8 → J (19 + a) b = zds (zSm sa sb sl w 0 a b)) → ZP l D zm_X6_measure 2 [some (.ref 6), some (.ref 18), some (.int (zo (-1) w)), some (.int (nI c)), none, none] [] J (zF tw) (fun v J G => v = none ∧ G = zF tw ∧ zRf 19 I J ∧ zRw 19 (fun a b => zFar (zNr sa sb sl w m) (8 * a + b)) J) := by
    intro d
    induction d with
    | zero =>
      intro c J hd
      exact absurd hd (by omega)
    | succ d ih =>
      intro c J hd hc hF hR
      refine P_iload_n (pc := 2) dX6_measure_2 rfl ?_
      refine P_bipush (pc := 3) (x := nI 8) dX6_measure_3 (by decide) ?_
      refine P_icmp_geN (pc := 5) (tgt := 28) dX6_measure_5 (by decide) (by omega) (by omega) (fun h5 => ?_) (fun h5 => ?_)
      · refine P_iconst (pc := 28) (x := nI 0) dX6_measure_28 (by decide) ?_
        refine P_istore_n (pc := 29) dX6_measure_29 (by decide) rfl ?_
        exact loop2 (m + 1) 0 none none J (by omega) (by omega) hF (fun a b ha hb => hR a b (by omega) hb)
      · refine P_aload_n (pc := 8) dX6_measure_8 rfl ?_
        refine P_iload_n (pc := 9) dX6_measure_9 rfl ?_
        refine P_aald (pc := 10) (c) dX6_measure_10 sh_18 (by decide) rfl (by omega) (by decide) (Fr_18 _ (by omega)) ?_
        refine P_bipush (pc := 11) (x := (-4)) dX6_measure_11 (by decide) ?_
        obtain ⟨_, K, _, k1, rfl, rfl, hK1, hK2⟩ := c_fill (l := l) (D := D) (tw := tw) (I := J) (a := 19 + c) (n := 8) (x := (-4)) (shr_19 c (by omega)) (by decide)
        refine P_callS (pc := 13) (S := []) (As := [_, _]) k1 dX6_measure_13 ok_J7_fill_53178 ml_X6_33 is_J7_fill_53178 ⟨by decide, by decide⟩ zret_v rfl ⟨rfl, by decide⟩ (Nat.le_of_ble_eq_true rfl) ?_
        refine P_aload_n (pc := 16) dX6_measure_16 rfl ?_
        refine P_iload_n (pc := 17) dX6_measure_17 rfl ?_
        refine P_aald (pc := 18) (c) dX6_measure_18 sh_18 (by decide) rfl (by omega) (by decide) (Fr_18 _ (by omega)) ?_
        refine P_iload_n (pc := 19) dX6_measure_19 rfl ?_
        refine P_iconst (pc := 20) (x := nI 0) dX6_measure_20 (by decide) ?_
        refine P_iast (pc := 21) (c) dX6_measure_21 (shr_19 _ (by omega)) rfl (by omega) (by decide) ?_
        refine P_iincN (pc := 22) (c := 1) dX6_measure_22 rfl (by decide) (by decide) rfl ?_
        refine P_goto (pc := 25) (tgt := 2) dX6_measure_25 (by decide) ?_
        refine ih (c + 1) _ (by omega) (by omega) (zRf.u (fun a ha => (hK1 a (by omega)).trans (hF a ha)) (by omega)) (fun a b ha hb => ?_)
        by_cases e : a = c
        · subst e
          by_cases e2 : b = a
          · subst e2; rw [zu_s]; unfold zSm; rw [if_pos rfl]; rfl
          · rw [zu_n _ _ e2, hK2 b hb]; unfold zSm; rw [if_neg (fun z => e2 z.symm)]; rfl
        · rw [zu_o _ _ (by omega), hK1 _ (by omega)]
          exact hR a b (by omega) hb
  show ZP _ _ _ _ [some _, some _, some _, none, none, none] _ _ _ _
  refine P_iconst (pc := 0) (x := nI 0) dX6_measure_0 (by decide) ?_
  refine P_istore_n (pc := 1) dX6_measure_1 (by decide) rfl ?_
  exact loop1 9 0 I (by omega) (by omega) zRf.rf (fun a b ha hb => by omega)
set_option maxRecDepth 20000 in
theorem c_minutes_5_18 {l : Launch} {D : va_G} {tw : Nat} {I : AI} {m : Nat} {kd fm am to : Nat → Nat} {f : Nat → Nat → Nat} (hW : CWk m kd fm am to I 31) (hR : zRw 19 f I) : ZP l D zm_X8_minutesToAims 0 (zent 5 [.ref 5, .ref 18]) [] I (zF tw) (fun v J G => v = some (zMa (fun i => f (fm i) (am i)) m) ∧ I = J ∧ G = zF tw) := by
  have hm := hW.2.1
  have loop : ∀ (d : Nat) (i : Nat) (v4 : Option Value), m - i < d → i ≤ m → ZP l D zm_X8_minutesToAims 4 [some (.ref 5), some (.ref 18), some (.int (zMa (fun i => f (fm i) (am i)) i)), some (.int (nI i)), v4] [] I (zF tw) (fun v J G => v = some (zMa (fun i => f (fm i) (am i)) m) ∧ I = J ∧ G = zF tw) := by
    intro d
    induction d with
    | zero =>
      intro i v4 hd
      exact absurd hd (by omega)
    | succ d ih =>
      intro i v4 hd hi
      refine P_iload_n (pc := 4) dX8_minutesToAims_4 rfl ?_
      refine P_aload_n (pc := 5) dX8_minutesToAims_5 rfl ?_
      refine P_getr (pc := 6) 8 2 dX8_minutesToAims_6 fl_X8_28 sh_5 fr_8_2 F_5_2 ?_
      refine P_geti (pc := 9) 10 4 (x := nI (m)) dX8_minutesToAims_9 fl_X8_39 sh_31 fi_10_4 (hW.1) ?_
      refine P_icmp_geN (pc := 12) (tgt := 62) dX8_minutesToAims_12 (by decide) (by omega) (by omega) (fun h12 => ?_) (fun h12 => ?_)
      · refine P_iload_n (pc := 62) dX8_minutesToAims_62 rfl ?_
        refine P_iret (pc := 63) dX8_minutesToAims_63 ?_
        have hi2 : i = m := by omega
        subst hi2
        exact ⟨rfl, rfl, rfl⟩
      · have hb := hW.2.2 i (by omega)
        refine P_aload_n (pc := 15) dX8_minutesToAims_15 rfl ?_
        refine P_aload_n (pc := 16) dX8_minutesToAims_16 rfl ?_
        refine P_getr (pc := 17) 8 2 dX8_minutesToAims_17 fl_X8_28 sh_5 fr_8_2 F_5_2 ?_
        refine P_getr (pc := 20) 10 1 dX8_minutesToAims_20 fl_X8_49 sh_31 fr_10_1 F_31_1 ?_
        refine P_iload_n (pc := 23) dX8_minutesToAims_23 rfl ?_
        refine P_iald (pc := 24) (i) (x := nI (fm i)) dX8_minutesToAims_24 sh_33 rfl (by omega) (by decide) ((hW.2.2 _ (by omega)).1.2.1) ?_
        refine P_aald (pc := 25) ((fm i)) dX8_minutesToAims_25 sh_18 (by decide) rfl (by omega) (by decide) (Fr_18 _ (by omega)) ?_
        refine P_aload_n (pc := 26) dX8_minutesToAims_26 rfl ?_
        refine P_getr (pc := 27) 8 2 dX8_minutesToAims_27 fl_X8_28 sh_5 fr_8_2 F_5_2 ?_
        refine P_getr (pc := 30) 10 2 dX8_minutesToAims_30 fl_X8_53 sh_31 fr_10_2 F_31_2 ?_
        refine P_iload_n (pc := 33) dX8_minutesToAims_33 rfl ?_
        refine P_iald (pc := 34) (i) (x := nI (am i)) dX8_minutesToAims_34 sh_34 rfl (by omega) (by decide) ((hW.2.2 _ (by omega)).1.2.2.1) ?_
        refine P_iald (pc := 35) ((am i)) (x := zds (f (fm i) (am i))) dX8_minutesToAims_35 (shr_19 _ (by omega)) rfl (by omega) (by decide) (hR _ _ (by omega) (by omega)) ?_
        refine P_istore (pc := 36) dX8_minutesToAims_36 (by decide) rfl ?_
        by_cases hq : f (fm i) (am i) < 10000
        · rw [zds_lt hq]
          refine P_iload_n (pc := 38) dX8_minutesToAims_38 rfl ?_
          refine P_iload (pc := 39) dX8_minutesToAims_39 rfl ?_
          refine P_bipush (pc := 41) (x := (-4)) dX8_minutesToAims_41 (by decide) ?_
          refine P_icmp_neT (pc := 43) (tgt := 52) dX8_minutesToAims_43 (by decide) (zne4 (by omega)) ?_
          refine P_iload (pc := 52) dX8_minutesToAims_52 rfl ?_
          refine P_iadd (pc := 54) dX8_minutesToAims_54 ?_
          refine P_istore_n (pc := 55) dX8_minutesToAims_55 (by decide) rfl ?_
          refine P_iincN (pc := 56) (c := 1) dX8_minutesToAims_56 rfl (by decide) (by decide) rfl ?_
          refine P_goto (pc := 59) (tgt := 4) dX8_minutesToAims_59 (by decide) ?_
          have hz : zMa (fun i => f (fm i) (am i)) (i + 1) = zMa (fun i => f (fm i) (am i)) i + nI (f (fm i) (am i)) := by show _ + nI (c200 (f (fm i) (am i))) = _; unfold c200; rw [if_pos hq]
          have h9 := ih (i + 1) (some (.int (nI (f (fm i) (am i))))) (by omega) (by omega)
          rw [hz] at h9
          exact h9
        · rw [zds_ge hq]
          refine P_iload_n (pc := 38) dX8_minutesToAims_38 rfl ?_
          refine P_iload (pc := 39) dX8_minutesToAims_39 rfl ?_
          refine P_bipush (pc := 41) (x := (-4)) dX8_minutesToAims_41 (by decide) ?_
          refine P_icmp_neF (pc := 43) (tgt := 52) dX8_minutesToAims_43 (by decide) rfl ?_
          refine P_sipush (pc := 46) (x := nI 200) dX8_minutesToAims_46 (by decide) ?_
          refine P_goto (pc := 49) (tgt := 54) dX8_minutesToAims_49 (by decide) ?_
          refine P_iadd (pc := 54) dX8_minutesToAims_54 ?_
          refine P_istore_n (pc := 55) dX8_minutesToAims_55 (by decide) rfl ?_
          refine P_iincN (pc := 56) (c := 1) dX8_minutesToAims_56 rfl (by decide) (by decide) rfl ?_
          refine P_goto (pc := 59) (tgt := 4) dX8_minutesToAims_59 (by decide) ?_
          have hz : zMa (fun i => f (fm i) (am i)) (i + 1) = zMa (fun i => f (fm i) (am i)) i + nI (200) := by show _ + nI (c200 (f (fm i) (am i))) = _; unfold c200; rw [if_neg hq]
          have h9 := ih (i + 1) (some (.int (-4))) (by omega) (by omega)
          rw [hz] at h9
          exact h9
  show ZP _ _ _ _ [some _, some _, none, none, none] _ _ _ _
  refine P_iconst (pc := 0) (x := nI 0) dX8_minutesToAims_0 (by decide) ?_
  refine P_istore_n (pc := 1) dX8_minutesToAims_1 (by decide) rfl ?_
  refine P_iconst (pc := 2) (x := nI 0) dX8_minutesToAims_2 (by decide) ?_
  refine P_istore_n (pc := 3) dX8_minutesToAims_3 (by decide) rfl ?_
  exact loop (m + 1) 0 none (by omega) (by omega)
set_option maxRecDepth 20000 in
theorem c_measure_5_98 {l : Launch} {D : va_G} {tw : Nat} {I : AI} {nc m : Nat} {sa sb sl : Nat → Nat} (hC : CSr nc m sa sb sl I 5) {w : Option Nat} (hwb : ∀ q, w = some q → q < 2 ^ 31) : ZP l D zm_X6_measure 0 (zent 6 [.ref 6, .ref 98, .int (zo (-1) w)]) [] I (zF tw) (fun v J G => v = none ∧ G = zF tw ∧ zRf 99 I J ∧ zRw 99 (fun a b => zFar (zNr sa sb sl w m) (8 * a + b)) J) := by
  have hnc8 := hC.2.1
  have hm12 := hC.2.2.2.1
  have loop3 : ∀ (d : Nat) (v : Nat) (v4 v5 : Option Value) (J : AI), nc - v < d → v ≤ nc → zRf 99 I J → zRw 99 (zD (zNr sa sb sl w m) v) J → ZP l D zm_X6_measure 101 [some (.ref 6), some (.ref 98), some (.int (zo (-1) w)), some (.int (nI v)), v4, v5] [] J (zF tw) (fun v J G => v = none ∧ G = zF tw ∧ zRf 99 I J ∧ zRw 99 (fun a b => zFar (zNr sa sb sl w m) (8 * a + b)) J) := by
    intro d
    induction d with
    | zero =>
      intro v v4 v5 J hd
      exact absurd hd (by omega)
    | succ d ih =>
      intro v v4 v5 J hd hv hF hR
      refine P_iload_n (pc := 101) dX6_measure_101 rfl ?_
      refine P_aload_n (pc := 102) dX6_measure_102 rfl ?_
      refine P_geti (pc := 103) 6 0 (x := nI (nc)) dX6_measure_103 fl_X6_26 sh_6 fi_6_0 ((congrFun (hF 6 (by omega)) 0).trans hC.1) ?_
      refine P_icmp_geN (pc := 106) (tgt := 121) dX6_measure_106 (by decide) (by omega) (by omega) (fun h106 => ?_) (fun h106 => ?_)
      · refine P_ret (pc := 121) dX6_measure_121 ?_
        have hv2 : v = nc := by omega
        subst hv2
        exact ⟨rfl, rfl, hF, hR.c (fun a b ha hb => zFar_nc (hC.ng (Nat.le_refl _)) hC.2.1 ha hb)⟩
      · refine P_aload_n (pc := 109) dX6_measure_109 rfl ?_
        refine P_aload_n (pc := 110) dX6_measure_110 rfl ?_
        refine P_iload_n (pc := 111) dX6_measure_111 rfl ?_
        obtain ⟨_, K, _, k1, rfl, rfl, hK1, hK2⟩ := c_shortenBy_5_98 (l := l) (D := D) (tw := tw) (I := J) (nc := nc) (m := v) (nr := zNr sa sb sl w m) ((congrFun (hF 6 (by omega)) 0).trans hC.1) hC.2.1 (hC.ng (Nat.le_refl _)) (by omega) hR
        refine P_callV (pc := 112) (S := []) (As := [_, _]) k1 dX6_measure_112 ok_X6_shortenBy ml_X6_39 iv_X6_shortenBy ⟨by decide, by decide⟩ zret_v rfl ⟨rfl, by decide⟩ sh_6 ⟨by decide, rfl⟩ (Nat.le_of_ble_eq_true rfl) ?_
        refine P_iincN (pc := 115) (c := 1) dX6_measure_115 rfl (by decide) (by decide) rfl ?_
        refine P_goto (pc := 118) (tgt := 101) dX6_measure_118 (by decide) ?_
        exact ih (v + 1) _ _ K (by omega) (by omega) (hF.trans hK1) hK2
  have loop2 : ∀ (d : Nat) (k : Nat) (v4 v5 : Option Value) (J : AI), m - k < d → k ≤ m → zRf 99 I J → zRw 99 (zSm sa sb sl w k) J → ZP l D zm_X6_measure 30 [some (.ref 6), some (.ref 98), some (.int (zo (-1) w)), some (.int (nI k)), v4, v5] [] J (zF tw) (fun v J G => v = none ∧ G = zF tw ∧ zRf 99 I J ∧ zRw 99 (fun a b => zFar (zNr sa sb sl w m) (8 * a + b)) J) := by
    intro d
    induction d with
    | zero =>
      intro k v4 v5 J hd
      exact absurd hd (by omega)
    | succ d ih =>
      intro k v4 v5 J hd hk hF hR
      refine P_iload_n (pc := 30) dX6_measure_30 rfl ?_
      refine P_aload_n (pc := 31) dX6_measure_31 rfl ?_
      refine P_geti (pc := 32) 6 1 (x := nI (m)) dX6_measure_32 fl_X6_30 sh_6 fi_6_1 ((congrFun (hF 6 (by omega)) 1).trans hC.2.2.1) ?_
      refine P_icmp_geN (pc := 35) (tgt := 99) dX6_measure_35 (by decide) (by omega) (by omega) (fun h35 => ?_) (fun h35 => ?_)
      · refine P_iconst (pc := 99) (x := nI 0) dX6_measure_99 (by decide) ?_
        refine P_istore_n (pc := 100) dX6_measure_100 (by decide) rfl ?_
        have hk2 : k = m := by omega
        subst hk2
        exact loop3 (nc + 1) 0 _ _ J (by omega) (by omega) hF (hR.c (fun a b _ _ => rfl))
      · have hs := (hC.2.2.2.2 k (by omega)).2
        refine P_aload_n (pc := 38) dX6_measure_38 rfl ?_
        refine P_getr (pc := 39) 6 2 dX6_measure_39 fl_X6_9 sh_6 fr_6_2 F_6_2 ?_
        refine P_iload_n (pc := 42) dX6_measure_42 rfl ?_
        refine P_iald (pc := 43) (k) (x := nI (sa k)) dX6_measure_43 sh_7 rfl (by omega) (by decide) ((congrFun (hF 7 (by omega)) _).trans (hC.2.2.2.2 k (by omega)).1.1) ?_
        refine P_istore (pc := 44) dX6_measure_44 (by decide) rfl ?_
        refine P_aload_n (pc := 46) dX6_measure_46 rfl ?_
        refine P_getr (pc := 47) 6 3 dX6_measure_47 fl_X6_15 sh_6 fr_6_3 F_6_3 ?_
        refine P_iload_n (pc := 50) dX6_measure_50 rfl ?_
        refine P_iald (pc := 51) (k) (x := nI (sb k)) dX6_measure_51 sh_8 rfl (by omega) (by decide) ((congrFun (hF 8 (by omega)) _).trans (hC.2.2.2.2 k (by omega)).1.2.1) ?_
        refine P_istore (pc := 52) dX6_measure_52 (by decide) rfl ?_
        refine P_iload_n (pc := 54) dX6_measure_54 rfl ?_
        refine P_iload_n (pc := 55) dX6_measure_55 rfl ?_
        refine P_icmp_eq (pc := 56) (tgt := 93) dX6_measure_56 (by decide) (fun h56 => ?_) (fun h56 => ?_)
        · refine P_iincN (pc := 93) (c := 1) dX6_measure_93 rfl (by decide) (by decide) rfl ?_
          refine P_goto (pc := 96) (tgt := 30) dX6_measure_96 (by decide) ?_
          exact ih (k + 1) _ _ J (by omega) (by omega) hF (hR.c (fun a b _ _ => zSm_w ((zo_eq1 (by omega) hwb).mp h56)))
        · refine P_aload_n (pc := 59) dX6_measure_59 rfl ?_
          refine P_iload (pc := 60) dX6_measure_60 rfl ?_
          refine P_aald (pc := 62) ((sa k)) dX6_measure_62 sh_98 (by decide) rfl (by omega) (by decide) (Fr_98 _ (by omega)) ?_
          refine P_iload (pc := 63) dX6_measure_63 rfl ?_
          refine P_aload_n (pc := 65) dX6_measure_65 rfl ?_
          refine P_getr (pc := 66) 6 4 dX6_measure_66 fl_X6_20 sh_6 fr_6_4 F_6_4 ?_
          refine P_iload (pc := 69) dX6_measure_69 rfl ?_
          refine P_aald (pc := 71) ((sa k)) dX6_measure_71 sh_9 (by decide) rfl (by omega) (by decide) (Fr_9 _ (by omega)) ?_
          refine P_iload (pc := 72) dX6_measure_72 rfl ?_
          refine P_iald (pc := 74) ((sb k)) (x := nI (sl k)) dX6_measure_74 (shr_10 _ (by omega)) rfl (by omega) (by decide) ((congrFun ((by first | exact hF | exact hF.u (by omega) : zRf 99 I _) _ (by omega)) _).trans (hC.2.2.2.2 k (by omega)).1.2.2) ?_
          refine P_iast (pc := 75) ((sb k)) dX6_measure_75 (shr_99 _ (by omega)) rfl (by omega) (by decide) ?_
          refine P_aload_n (pc := 76) dX6_measure_76 rfl ?_
          refine P_iload (pc := 77) dX6_measure_77 rfl ?_
          refine P_aald (pc := 79) ((sb k)) dX6_measure_79 sh_98 (by decide) rfl (by omega) (by decide) (Fr_98 _ (by omega)) ?_
          refine P_iload (pc := 80) dX6_measure_80 rfl ?_
          refine P_aload_n (pc := 82) dX6_measure_82 rfl ?_
          refine P_getr (pc := 83) 6 4 dX6_measure_83 fl_X6_20 sh_6 fr_6_4 F_6_4 ?_
          refine P_iload (pc := 86) dX6_measure_86 rfl ?_
          refine P_aald (pc := 88) ((sa k)) dX6_measure_88 sh_9 (by decide) rfl (by omega) (by decide) (Fr_9 _ (by omega)) ?_
          refine P_iload (pc := 89) dX6_measure_89 rfl ?_
          refine P_iald (pc := 91) ((sb k)) (x := nI (sl k)) dX6_measure_91 (shr_10 _ (by omega)) rfl (by omega) (by decide) ((congrFun ((by first | exact hF | exact hF.u (by omega) : zRf 99 I _) _ (by omega)) _).trans (hC.2.2.2.2 k (by omega)).1.2.2) ?_
          refine P_iast (pc := 92) ((sa k)) dX6_measure_92 (shr_99 _ (by omega)) rfl (by omega) (by decide) ?_
          refine P_iincN (pc := 93) (c := 1) dX6_measure_93 rfl (by decide) (by decide) rfl ?_
          refine P_goto (pc := 96) (tgt := 30) dX6_measure_96 (by decide) ?_
          exact ih (k + 1) _ _ _ (by omega) (by omega) ((hF.u (by omega)).u (by omega)) ((hR.u (by omega) (by omega) (by rw [zSh_1 hs.1, zds_lt (by omega)]) (fun a b ha hb e => zSh_o ha hb (by omega) (by omega) e)).u (by omega) (by omega) (by rw [zSm_1 (fun z => h56 ((zo_eq1 (by omega) hwb).mpr z)) hs.1, zds_lt (by omega)]) (fun a b ha hb e => zSm_o (fun z => h56 ((zo_eq1 (by omega) hwb).mpr z)) ha hb (by omega) (by omega) e))
  have loop1 : ∀ (d : Nat) (c : Nat) (J : AI), 8 - c < d → c ≤ 8 → zRf 99 I J → (∀ a b, a < c → b < 8 → J (99 + a) b = zds (zSm sa sb sl w 0 a b)) → ZP l D zm_X6_measure 2 [some (.ref 6), some (.ref 98), some (.int (zo (-1) w)), some (.int (nI c)), none, none] [] J (zF tw) (fun v J G => v = none ∧ G = zF tw ∧ zRf 99 I J ∧ zRw 99 (fun a b => zFar (zNr sa sb sl w m) (8 * a + b)) J) := by
    intro d
    induction d with
    | zero =>
      intro c J hd
      exact absurd hd (by omega)
    | succ d ih =>
      intro c J hd hc hF hR
      refine P_iload_n (pc := 2) dX6_measure_2 rfl ?_
      refine P_bipush (pc := 3) (x := nI 8) dX6_measure_3 (by decide) ?_
      refine P_icmp_geN (pc := 5) (tgt := 28) dX6_measure_5 (by decide) (by omega) (by omega) (fun h5 => ?_) (fun h5 => ?_)
      · refine P_iconst (pc := 28) (x := nI 0) dX6_measure_28 (by decide) ?_
        refine P_istore_n (pc := 29) dX6_measure_29 (by decide) rfl ?_
        exact loop2 (m + 1) 0 none none J (by omega) (by omega) hF (fun a b ha hb => hR a b (by omega) hb)
      · refine P_aload_n (pc := 8) dX6_measure_8 rfl ?_
        refine P_iload_n (pc := 9) dX6_measure_9 rfl ?_
        refine P_aald (pc := 10) (c) dX6_measure_10 sh_98 (by decide) rfl (by omega) (by decide) (Fr_98 _ (by omega)) ?_
        refine P_bipush (pc := 11) (x := (-4)) dX6_measure_11 (by decide) ?_
        obtain ⟨_, K, _, k1, rfl, rfl, hK1, hK2⟩ := c_fill (l := l) (D := D) (tw := tw) (I := J) (a := 99 + c) (n := 8) (x := (-4)) (shr_99 c (by omega)) (by decide)
        refine P_callS (pc := 13) (S := []) (As := [_, _]) k1 dX6_measure_13 ok_J7_fill_53178 ml_X6_33 is_J7_fill_53178 ⟨by decide, by decide⟩ zret_v rfl ⟨rfl, by decide⟩ (Nat.le_of_ble_eq_true rfl) ?_
        refine P_aload_n (pc := 16) dX6_measure_16 rfl ?_
        refine P_iload_n (pc := 17) dX6_measure_17 rfl ?_
        refine P_aald (pc := 18) (c) dX6_measure_18 sh_98 (by decide) rfl (by omega) (by decide) (Fr_98 _ (by omega)) ?_
        refine P_iload_n (pc := 19) dX6_measure_19 rfl ?_
        refine P_iconst (pc := 20) (x := nI 0) dX6_measure_20 (by decide) ?_
        refine P_iast (pc := 21) (c) dX6_measure_21 (shr_99 _ (by omega)) rfl (by omega) (by decide) ?_
        refine P_iincN (pc := 22) (c := 1) dX6_measure_22 rfl (by decide) (by decide) rfl ?_
        refine P_goto (pc := 25) (tgt := 2) dX6_measure_25 (by decide) ?_
        refine ih (c + 1) _ (by omega) (by omega) (zRf.u (fun a ha => (hK1 a (by omega)).trans (hF a ha)) (by omega)) (fun a b ha hb => ?_)
        by_cases e : a = c
        · subst e
          by_cases e2 : b = a
          · subst e2; rw [zu_s]; unfold zSm; rw [if_pos rfl]; rfl
          · rw [zu_n _ _ e2, hK2 b hb]; unfold zSm; rw [if_neg (fun z => e2 z.symm)]; rfl
        · rw [zu_o _ _ (by omega), hK1 _ (by omega)]
          exact hR a b (by omega) hb
  show ZP _ _ _ _ [some _, some _, some _, none, none, none] _ _ _ _
  refine P_iconst (pc := 0) (x := nI 0) dX6_measure_0 (by decide) ?_
  refine P_istore_n (pc := 1) dX6_measure_1 (by decide) rfl ?_
  exact loop1 9 0 I (by omega) (by omega) zRf.rf (fun a b ha hb => by omega)
set_option maxRecDepth 20000 in
theorem c_minutes_5_98 {l : Launch} {D : va_G} {tw : Nat} {I : AI} {m : Nat} {kd fm am to : Nat → Nat} {f : Nat → Nat → Nat} (hW : CWk m kd fm am to I 31) (hR : zRw 99 f I) : ZP l D zm_X8_minutesToAims 0 (zent 5 [.ref 5, .ref 98]) [] I (zF tw) (fun v J G => v = some (zMa (fun i => f (fm i) (am i)) m) ∧ I = J ∧ G = zF tw) := by
  have hm := hW.2.1
  have loop : ∀ (d : Nat) (i : Nat) (v4 : Option Value), m - i < d → i ≤ m → ZP l D zm_X8_minutesToAims 4 [some (.ref 5), some (.ref 98), some (.int (zMa (fun i => f (fm i) (am i)) i)), some (.int (nI i)), v4] [] I (zF tw) (fun v J G => v = some (zMa (fun i => f (fm i) (am i)) m) ∧ I = J ∧ G = zF tw) := by
    intro d
    induction d with
    | zero =>
      intro i v4 hd
      exact absurd hd (by omega)
    | succ d ih =>
      intro i v4 hd hi
      refine P_iload_n (pc := 4) dX8_minutesToAims_4 rfl ?_
      refine P_aload_n (pc := 5) dX8_minutesToAims_5 rfl ?_
      refine P_getr (pc := 6) 8 2 dX8_minutesToAims_6 fl_X8_28 sh_5 fr_8_2 F_5_2 ?_
      refine P_geti (pc := 9) 10 4 (x := nI (m)) dX8_minutesToAims_9 fl_X8_39 sh_31 fi_10_4 (hW.1) ?_
      refine P_icmp_geN (pc := 12) (tgt := 62) dX8_minutesToAims_12 (by decide) (by omega) (by omega) (fun h12 => ?_) (fun h12 => ?_)
      · refine P_iload_n (pc := 62) dX8_minutesToAims_62 rfl ?_
        refine P_iret (pc := 63) dX8_minutesToAims_63 ?_
        have hi2 : i = m := by omega
        subst hi2
        exact ⟨rfl, rfl, rfl⟩
      · have hb := hW.2.2 i (by omega)
        refine P_aload_n (pc := 15) dX8_minutesToAims_15 rfl ?_
        refine P_aload_n (pc := 16) dX8_minutesToAims_16 rfl ?_
        refine P_getr (pc := 17) 8 2 dX8_minutesToAims_17 fl_X8_28 sh_5 fr_8_2 F_5_2 ?_
        refine P_getr (pc := 20) 10 1 dX8_minutesToAims_20 fl_X8_49 sh_31 fr_10_1 F_31_1 ?_
        refine P_iload_n (pc := 23) dX8_minutesToAims_23 rfl ?_
        refine P_iald (pc := 24) (i) (x := nI (fm i)) dX8_minutesToAims_24 sh_33 rfl (by omega) (by decide) ((hW.2.2 _ (by omega)).1.2.1) ?_
        refine P_aald (pc := 25) ((fm i)) dX8_minutesToAims_25 sh_98 (by decide) rfl (by omega) (by decide) (Fr_98 _ (by omega)) ?_
        refine P_aload_n (pc := 26) dX8_minutesToAims_26 rfl ?_
        refine P_getr (pc := 27) 8 2 dX8_minutesToAims_27 fl_X8_28 sh_5 fr_8_2 F_5_2 ?_
        refine P_getr (pc := 30) 10 2 dX8_minutesToAims_30 fl_X8_53 sh_31 fr_10_2 F_31_2 ?_
        refine P_iload_n (pc := 33) dX8_minutesToAims_33 rfl ?_
        refine P_iald (pc := 34) (i) (x := nI (am i)) dX8_minutesToAims_34 sh_34 rfl (by omega) (by decide) ((hW.2.2 _ (by omega)).1.2.2.1) ?_
        refine P_iald (pc := 35) ((am i)) (x := zds (f (fm i) (am i))) dX8_minutesToAims_35 (shr_99 _ (by omega)) rfl (by omega) (by decide) (hR _ _ (by omega) (by omega)) ?_
        refine P_istore (pc := 36) dX8_minutesToAims_36 (by decide) rfl ?_
        by_cases hq : f (fm i) (am i) < 10000
        · rw [zds_lt hq]
          refine P_iload_n (pc := 38) dX8_minutesToAims_38 rfl ?_
          refine P_iload (pc := 39) dX8_minutesToAims_39 rfl ?_
          refine P_bipush (pc := 41) (x := (-4)) dX8_minutesToAims_41 (by decide) ?_
          refine P_icmp_neT (pc := 43) (tgt := 52) dX8_minutesToAims_43 (by decide) (zne4 (by omega)) ?_
          refine P_iload (pc := 52) dX8_minutesToAims_52 rfl ?_
          refine P_iadd (pc := 54) dX8_minutesToAims_54 ?_
          refine P_istore_n (pc := 55) dX8_minutesToAims_55 (by decide) rfl ?_
          refine P_iincN (pc := 56) (c := 1) dX8_minutesToAims_56 rfl (by decide) (by decide) rfl ?_
          refine P_goto (pc := 59) (tgt := 4) dX8_minutesToAims_59 (by decide) ?_
          have hz : zMa (fun i => f (fm i) (am i)) (i + 1) = zMa (fun i => f (fm i) (am i)) i + nI (f (fm i) (am i)) := by show _ + nI (c200 (f (fm i) (am i))) = _; unfold c200; rw [if_pos hq]
          have h9 := ih (i + 1) (some (.int (nI (f (fm i) (am i))))) (by omega) (by omega)
          rw [hz] at h9
          exact h9
        · rw [zds_ge hq]
          refine P_iload_n (pc := 38) dX8_minutesToAims_38 rfl ?_
          refine P_iload (pc := 39) dX8_minutesToAims_39 rfl ?_
          refine P_bipush (pc := 41) (x := (-4)) dX8_minutesToAims_41 (by decide) ?_
          refine P_icmp_neF (pc := 43) (tgt := 52) dX8_minutesToAims_43 (by decide) rfl ?_
          refine P_sipush (pc := 46) (x := nI 200) dX8_minutesToAims_46 (by decide) ?_
          refine P_goto (pc := 49) (tgt := 54) dX8_minutesToAims_49 (by decide) ?_
          refine P_iadd (pc := 54) dX8_minutesToAims_54 ?_
          refine P_istore_n (pc := 55) dX8_minutesToAims_55 (by decide) rfl ?_
          refine P_iincN (pc := 56) (c := 1) dX8_minutesToAims_56 rfl (by decide) (by decide) rfl ?_
          refine P_goto (pc := 59) (tgt := 4) dX8_minutesToAims_59 (by decide) ?_
          have hz : zMa (fun i => f (fm i) (am i)) (i + 1) = zMa (fun i => f (fm i) (am i)) i + nI (200) := by show _ + nI (c200 (f (fm i) (am i))) = _; unfold c200; rw [if_neg hq]
          have h9 := ih (i + 1) (some (.int (-4))) (by omega) (by omega)
          rw [hz] at h9
          exact h9
  show ZP _ _ _ _ [some _, some _, none, none, none] _ _ _ _
  refine P_iconst (pc := 0) (x := nI 0) dX8_minutesToAims_0 (by decide) ?_
  refine P_istore_n (pc := 1) dX8_minutesToAims_1 (by decide) rfl ?_
  refine P_iconst (pc := 2) (x := nI 0) dX8_minutesToAims_2 (by decide) ?_
  refine P_istore_n (pc := 3) dX8_minutesToAims_3 (by decide) rfl ?_
  exact loop (m + 1) 0 none (by omega) (by omega)
set_option maxRecDepth 20000 in
theorem c_measure_36_49 {l : Launch} {D : va_G} {tw : Nat} {I : AI} {nc m : Nat} {sa sb sl : Nat → Nat} (hC : CSr nc m sa sb sl I 36) {w : Option Nat} (hwb : ∀ q, w = some q → q < 2 ^ 31) : ZP l D zm_X6_measure 0 (zent 6 [.ref 37, .ref 49, .int (zo (-1) w)]) [] I (zF tw) (fun v J G => v = none ∧ G = zF tw ∧ zRf 50 I J ∧ zRw 50 (fun a b => zFar (zNr sa sb sl w m) (8 * a + b)) J) := by
  have hnc8 := hC.2.1
  have hm12 := hC.2.2.2.1
  have loop3 : ∀ (d : Nat) (v : Nat) (v4 v5 : Option Value) (J : AI), nc - v < d → v ≤ nc → zRf 50 I J → zRw 50 (zD (zNr sa sb sl w m) v) J → ZP l D zm_X6_measure 101 [some (.ref 37), some (.ref 49), some (.int (zo (-1) w)), some (.int (nI v)), v4, v5] [] J (zF tw) (fun v J G => v = none ∧ G = zF tw ∧ zRf 50 I J ∧ zRw 50 (fun a b => zFar (zNr sa sb sl w m) (8 * a + b)) J) := by
    intro d
    induction d with
    | zero =>
      intro v v4 v5 J hd
      exact absurd hd (by omega)
    | succ d ih =>
      intro v v4 v5 J hd hv hF hR
      refine P_iload_n (pc := 101) dX6_measure_101 rfl ?_
      refine P_aload_n (pc := 102) dX6_measure_102 rfl ?_
      refine P_geti (pc := 103) 6 0 (x := nI (nc)) dX6_measure_103 fl_X6_26 sh_37 fi_6_0 ((congrFun (hF 37 (by omega)) 0).trans hC.1) ?_
      refine P_icmp_geN (pc := 106) (tgt := 121) dX6_measure_106 (by decide) (by omega) (by omega) (fun h106 => ?_) (fun h106 => ?_)
      · refine P_ret (pc := 121) dX6_measure_121 ?_
        have hv2 : v = nc := by omega
        subst hv2
        exact ⟨rfl, rfl, hF, hR.c (fun a b ha hb => zFar_nc (hC.ng (Nat.le_refl _)) hC.2.1 ha hb)⟩
      · refine P_aload_n (pc := 109) dX6_measure_109 rfl ?_
        refine P_aload_n (pc := 110) dX6_measure_110 rfl ?_
        refine P_iload_n (pc := 111) dX6_measure_111 rfl ?_
        obtain ⟨_, K, _, k1, rfl, rfl, hK1, hK2⟩ := c_shortenBy_36_49 (l := l) (D := D) (tw := tw) (I := J) (nc := nc) (m := v) (nr := zNr sa sb sl w m) ((congrFun (hF 37 (by omega)) 0).trans hC.1) hC.2.1 (hC.ng (Nat.le_refl _)) (by omega) hR
        refine P_callV (pc := 112) (S := []) (As := [_, _]) k1 dX6_measure_112 ok_X6_shortenBy ml_X6_39 iv_X6_shortenBy ⟨by decide, by decide⟩ zret_v rfl ⟨rfl, by decide⟩ sh_37 ⟨by decide, rfl⟩ (Nat.le_of_ble_eq_true rfl) ?_
        refine P_iincN (pc := 115) (c := 1) dX6_measure_115 rfl (by decide) (by decide) rfl ?_
        refine P_goto (pc := 118) (tgt := 101) dX6_measure_118 (by decide) ?_
        exact ih (v + 1) _ _ K (by omega) (by omega) (hF.trans hK1) hK2
  have loop2 : ∀ (d : Nat) (k : Nat) (v4 v5 : Option Value) (J : AI), m - k < d → k ≤ m → zRf 50 I J → zRw 50 (zSm sa sb sl w k) J → ZP l D zm_X6_measure 30 [some (.ref 37), some (.ref 49), some (.int (zo (-1) w)), some (.int (nI k)), v4, v5] [] J (zF tw) (fun v J G => v = none ∧ G = zF tw ∧ zRf 50 I J ∧ zRw 50 (fun a b => zFar (zNr sa sb sl w m) (8 * a + b)) J) := by
    intro d
    induction d with
    | zero =>
      intro k v4 v5 J hd
      exact absurd hd (by omega)
    | succ d ih =>
      intro k v4 v5 J hd hk hF hR
      refine P_iload_n (pc := 30) dX6_measure_30 rfl ?_
      refine P_aload_n (pc := 31) dX6_measure_31 rfl ?_
      refine P_geti (pc := 32) 6 1 (x := nI (m)) dX6_measure_32 fl_X6_30 sh_37 fi_6_1 ((congrFun (hF 37 (by omega)) 1).trans hC.2.2.1) ?_
      refine P_icmp_geN (pc := 35) (tgt := 99) dX6_measure_35 (by decide) (by omega) (by omega) (fun h35 => ?_) (fun h35 => ?_)
      · refine P_iconst (pc := 99) (x := nI 0) dX6_measure_99 (by decide) ?_
        refine P_istore_n (pc := 100) dX6_measure_100 (by decide) rfl ?_
        have hk2 : k = m := by omega
        subst hk2
        exact loop3 (nc + 1) 0 _ _ J (by omega) (by omega) hF (hR.c (fun a b _ _ => rfl))
      · have hs := (hC.2.2.2.2 k (by omega)).2
        refine P_aload_n (pc := 38) dX6_measure_38 rfl ?_
        refine P_getr (pc := 39) 6 2 dX6_measure_39 fl_X6_9 sh_37 fr_6_2 F_37_2 ?_
        refine P_iload_n (pc := 42) dX6_measure_42 rfl ?_
        refine P_iald (pc := 43) (k) (x := nI (sa k)) dX6_measure_43 sh_38 rfl (by omega) (by decide) ((congrFun (hF 38 (by omega)) _).trans (hC.2.2.2.2 k (by omega)).1.1) ?_
        refine P_istore (pc := 44) dX6_measure_44 (by decide) rfl ?_
        refine P_aload_n (pc := 46) dX6_measure_46 rfl ?_
        refine P_getr (pc := 47) 6 3 dX6_measure_47 fl_X6_15 sh_37 fr_6_3 F_37_3 ?_
        refine P_iload_n (pc := 50) dX6_measure_50 rfl ?_
        refine P_iald (pc := 51) (k) (x := nI (sb k)) dX6_measure_51 sh_39 rfl (by omega) (by decide) ((congrFun (hF 39 (by omega)) _).trans (hC.2.2.2.2 k (by omega)).1.2.1) ?_
        refine P_istore (pc := 52) dX6_measure_52 (by decide) rfl ?_
        refine P_iload_n (pc := 54) dX6_measure_54 rfl ?_
        refine P_iload_n (pc := 55) dX6_measure_55 rfl ?_
        refine P_icmp_eq (pc := 56) (tgt := 93) dX6_measure_56 (by decide) (fun h56 => ?_) (fun h56 => ?_)
        · refine P_iincN (pc := 93) (c := 1) dX6_measure_93 rfl (by decide) (by decide) rfl ?_
          refine P_goto (pc := 96) (tgt := 30) dX6_measure_96 (by decide) ?_
          exact ih (k + 1) _ _ J (by omega) (by omega) hF (hR.c (fun a b _ _ => zSm_w ((zo_eq1 (by omega) hwb).mp h56)))
        · refine P_aload_n (pc := 59) dX6_measure_59 rfl ?_
          refine P_iload (pc := 60) dX6_measure_60 rfl ?_
          refine P_aald (pc := 62) ((sa k)) dX6_measure_62 sh_49 (by decide) rfl (by omega) (by decide) (Fr_49 _ (by omega)) ?_
          refine P_iload (pc := 63) dX6_measure_63 rfl ?_
          refine P_aload_n (pc := 65) dX6_measure_65 rfl ?_
          refine P_getr (pc := 66) 6 4 dX6_measure_66 fl_X6_20 sh_37 fr_6_4 F_37_4 ?_
          refine P_iload (pc := 69) dX6_measure_69 rfl ?_
          refine P_aald (pc := 71) ((sa k)) dX6_measure_71 sh_40 (by decide) rfl (by omega) (by decide) (Fr_40 _ (by omega)) ?_
          refine P_iload (pc := 72) dX6_measure_72 rfl ?_
          refine P_iald (pc := 74) ((sb k)) (x := nI (sl k)) dX6_measure_74 (shr_41 _ (by omega)) rfl (by omega) (by decide) ((congrFun ((by first | exact hF | exact hF.u (by omega) : zRf 50 I _) _ (by omega)) _).trans (hC.2.2.2.2 k (by omega)).1.2.2) ?_
          refine P_iast (pc := 75) ((sb k)) dX6_measure_75 (shr_50 _ (by omega)) rfl (by omega) (by decide) ?_
          refine P_aload_n (pc := 76) dX6_measure_76 rfl ?_
          refine P_iload (pc := 77) dX6_measure_77 rfl ?_
          refine P_aald (pc := 79) ((sb k)) dX6_measure_79 sh_49 (by decide) rfl (by omega) (by decide) (Fr_49 _ (by omega)) ?_
          refine P_iload (pc := 80) dX6_measure_80 rfl ?_
          refine P_aload_n (pc := 82) dX6_measure_82 rfl ?_
          refine P_getr (pc := 83) 6 4 dX6_measure_83 fl_X6_20 sh_37 fr_6_4 F_37_4 ?_
          refine P_iload (pc := 86) dX6_measure_86 rfl ?_
          refine P_aald (pc := 88) ((sa k)) dX6_measure_88 sh_40 (by decide) rfl (by omega) (by decide) (Fr_40 _ (by omega)) ?_
          refine P_iload (pc := 89) dX6_measure_89 rfl ?_
          refine P_iald (pc := 91) ((sb k)) (x := nI (sl k)) dX6_measure_91 (shr_41 _ (by omega)) rfl (by omega) (by decide) ((congrFun ((by first | exact hF | exact hF.u (by omega) : zRf 50 I _) _ (by omega)) _).trans (hC.2.2.2.2 k (by omega)).1.2.2) ?_
          refine P_iast (pc := 92) ((sa k)) dX6_measure_92 (shr_50 _ (by omega)) rfl (by omega) (by decide) ?_
          refine P_iincN (pc := 93) (c := 1) dX6_measure_93 rfl (by decide) (by decide) rfl ?_
          refine P_goto (pc := 96) (tgt := 30) dX6_measure_96 (by decide) ?_
          exact ih (k + 1) _ _ _ (by omega) (by omega) ((hF.u (by omega)).u (by omega)) ((hR.u (by omega) (by omega) (by rw [zSh_1 hs.1, zds_lt (by omega)]) (fun a b ha hb e => zSh_o ha hb (by omega) (by omega) e)).u (by omega) (by omega) (by rw [zSm_1 (fun z => h56 ((zo_eq1 (by omega) hwb).mpr z)) hs.1, zds_lt (by omega)]) (fun a b ha hb e => zSm_o (fun z => h56 ((zo_eq1 (by omega) hwb).mpr z)) ha hb (by omega) (by omega) e))
  have loop1 : ∀ (d : Nat) (c : Nat) (J : AI), 8 - c < d → c ≤ 8 → zRf 50 I J → (∀ a b, a < c → b < 8 → J (50 + a) b = zds (zSm sa sb sl w 0 a b)) → ZP l D zm_X6_measure 2 [some (.ref 37), some (.ref 49), some (.int (zo (-1) w)), some (.int (nI c)), none, none] [] J (zF tw) (fun v J G => v = none ∧ G = zF tw ∧ zRf 50 I J ∧ zRw 50 (fun a b => zFar (zNr sa sb sl w m) (8 * a + b)) J) := by
    intro d
    induction d with
    | zero =>
      intro c J hd
      exact absurd hd (by omega)
    | succ d ih =>
      intro c J hd hc hF hR
      refine P_iload_n (pc := 2) dX6_measure_2 rfl ?_
      refine P_bipush (pc := 3) (x := nI 8) dX6_measure_3 (by decide) ?_
      refine P_icmp_geN (pc := 5) (tgt := 28) dX6_measure_5 (by decide) (by omega) (by omega) (fun h5 => ?_) (fun h5 => ?_)
      · refine P_iconst (pc := 28) (x := nI 0) dX6_measure_28 (by decide) ?_
        refine P_istore_n (pc := 29) dX6_measure_29 (by decide) rfl ?_
        exact loop2 (m + 1) 0 none none J (by omega) (by omega) hF (fun a b ha hb => hR a b (by omega) hb)
      · refine P_aload_n (pc := 8) dX6_measure_8 rfl ?_
        refine P_iload_n (pc := 9) dX6_measure_9 rfl ?_
        refine P_aald (pc := 10) (c) dX6_measure_10 sh_49 (by decide) rfl (by omega) (by decide) (Fr_49 _ (by omega)) ?_
        refine P_bipush (pc := 11) (x := (-4)) dX6_measure_11 (by decide) ?_
        obtain ⟨_, K, _, k1, rfl, rfl, hK1, hK2⟩ := c_fill (l := l) (D := D) (tw := tw) (I := J) (a := 50 + c) (n := 8) (x := (-4)) (shr_50 c (by omega)) (by decide)
        refine P_callS (pc := 13) (S := []) (As := [_, _]) k1 dX6_measure_13 ok_J7_fill_53178 ml_X6_33 is_J7_fill_53178 ⟨by decide, by decide⟩ zret_v rfl ⟨rfl, by decide⟩ (Nat.le_of_ble_eq_true rfl) ?_
        refine P_aload_n (pc := 16) dX6_measure_16 rfl ?_
        refine P_iload_n (pc := 17) dX6_measure_17 rfl ?_
        refine P_aald (pc := 18) (c) dX6_measure_18 sh_49 (by decide) rfl (by omega) (by decide) (Fr_49 _ (by omega)) ?_
        refine P_iload_n (pc := 19) dX6_measure_19 rfl ?_
        refine P_iconst (pc := 20) (x := nI 0) dX6_measure_20 (by decide) ?_
        refine P_iast (pc := 21) (c) dX6_measure_21 (shr_50 _ (by omega)) rfl (by omega) (by decide) ?_
        refine P_iincN (pc := 22) (c := 1) dX6_measure_22 rfl (by decide) (by decide) rfl ?_
        refine P_goto (pc := 25) (tgt := 2) dX6_measure_25 (by decide) ?_
        refine ih (c + 1) _ (by omega) (by omega) (zRf.u (fun a ha => (hK1 a (by omega)).trans (hF a ha)) (by omega)) (fun a b ha hb => ?_)
        by_cases e : a = c
        · subst e
          by_cases e2 : b = a
          · subst e2; rw [zu_s]; unfold zSm; rw [if_pos rfl]; rfl
          · rw [zu_n _ _ e2, hK2 b hb]; unfold zSm; rw [if_neg (fun z => e2 z.symm)]; rfl
        · rw [zu_o _ _ (by omega), hK1 _ (by omega)]
          exact hR a b (by omega) hb
  show ZP _ _ _ _ [some _, some _, some _, none, none, none] _ _ _ _
  refine P_iconst (pc := 0) (x := nI 0) dX6_measure_0 (by decide) ?_
  refine P_istore_n (pc := 1) dX6_measure_1 (by decide) rfl ?_
  exact loop1 9 0 I (by omega) (by omega) zRf.rf (fun a b ha hb => by omega)
set_option maxRecDepth 20000 in
theorem c_minutes_36_49 {l : Launch} {D : va_G} {tw : Nat} {I : AI} {m : Nat} {kd fm am to : Nat → Nat} {f : Nat → Nat → Nat} (hW : CWk m kd fm am to I 62) (hR : zRw 50 f I) : ZP l D zm_X8_minutesToAims 0 (zent 5 [.ref 36, .ref 49]) [] I (zF tw) (fun v J G => v = some (zMa (fun i => f (fm i) (am i)) m) ∧ I = J ∧ G = zF tw) := by
  have hm := hW.2.1
  have loop : ∀ (d : Nat) (i : Nat) (v4 : Option Value), m - i < d → i ≤ m → ZP l D zm_X8_minutesToAims 4 [some (.ref 36), some (.ref 49), some (.int (zMa (fun i => f (fm i) (am i)) i)), some (.int (nI i)), v4] [] I (zF tw) (fun v J G => v = some (zMa (fun i => f (fm i) (am i)) m) ∧ I = J ∧ G = zF tw) := by
    intro d
    induction d with
    | zero =>
      intro i v4 hd
      exact absurd hd (by omega)
    | succ d ih =>
      intro i v4 hd hi
      refine P_iload_n (pc := 4) dX8_minutesToAims_4 rfl ?_
      refine P_aload_n (pc := 5) dX8_minutesToAims_5 rfl ?_
      refine P_getr (pc := 6) 8 2 dX8_minutesToAims_6 fl_X8_28 sh_36 fr_8_2 F_36_2 ?_
      refine P_geti (pc := 9) 10 4 (x := nI (m)) dX8_minutesToAims_9 fl_X8_39 sh_62 fi_10_4 (hW.1) ?_
      refine P_icmp_geN (pc := 12) (tgt := 62) dX8_minutesToAims_12 (by decide) (by omega) (by omega) (fun h12 => ?_) (fun h12 => ?_)
      · refine P_iload_n (pc := 62) dX8_minutesToAims_62 rfl ?_
        refine P_iret (pc := 63) dX8_minutesToAims_63 ?_
        have hi2 : i = m := by omega
        subst hi2
        exact ⟨rfl, rfl, rfl⟩
      · have hb := hW.2.2 i (by omega)
        refine P_aload_n (pc := 15) dX8_minutesToAims_15 rfl ?_
        refine P_aload_n (pc := 16) dX8_minutesToAims_16 rfl ?_
        refine P_getr (pc := 17) 8 2 dX8_minutesToAims_17 fl_X8_28 sh_36 fr_8_2 F_36_2 ?_
        refine P_getr (pc := 20) 10 1 dX8_minutesToAims_20 fl_X8_49 sh_62 fr_10_1 F_62_1 ?_
        refine P_iload_n (pc := 23) dX8_minutesToAims_23 rfl ?_
        refine P_iald (pc := 24) (i) (x := nI (fm i)) dX8_minutesToAims_24 sh_64 rfl (by omega) (by decide) ((hW.2.2 _ (by omega)).1.2.1) ?_
        refine P_aald (pc := 25) ((fm i)) dX8_minutesToAims_25 sh_49 (by decide) rfl (by omega) (by decide) (Fr_49 _ (by omega)) ?_
        refine P_aload_n (pc := 26) dX8_minutesToAims_26 rfl ?_
        refine P_getr (pc := 27) 8 2 dX8_minutesToAims_27 fl_X8_28 sh_36 fr_8_2 F_36_2 ?_
        refine P_getr (pc := 30) 10 2 dX8_minutesToAims_30 fl_X8_53 sh_62 fr_10_2 F_62_2 ?_
        refine P_iload_n (pc := 33) dX8_minutesToAims_33 rfl ?_
        refine P_iald (pc := 34) (i) (x := nI (am i)) dX8_minutesToAims_34 sh_65 rfl (by omega) (by decide) ((hW.2.2 _ (by omega)).1.2.2.1) ?_
        refine P_iald (pc := 35) ((am i)) (x := zds (f (fm i) (am i))) dX8_minutesToAims_35 (shr_50 _ (by omega)) rfl (by omega) (by decide) (hR _ _ (by omega) (by omega)) ?_
        refine P_istore (pc := 36) dX8_minutesToAims_36 (by decide) rfl ?_
        by_cases hq : f (fm i) (am i) < 10000
        · rw [zds_lt hq]
          refine P_iload_n (pc := 38) dX8_minutesToAims_38 rfl ?_
          refine P_iload (pc := 39) dX8_minutesToAims_39 rfl ?_
          refine P_bipush (pc := 41) (x := (-4)) dX8_minutesToAims_41 (by decide) ?_
          refine P_icmp_neT (pc := 43) (tgt := 52) dX8_minutesToAims_43 (by decide) (zne4 (by omega)) ?_
          refine P_iload (pc := 52) dX8_minutesToAims_52 rfl ?_
          refine P_iadd (pc := 54) dX8_minutesToAims_54 ?_
          refine P_istore_n (pc := 55) dX8_minutesToAims_55 (by decide) rfl ?_
          refine P_iincN (pc := 56) (c := 1) dX8_minutesToAims_56 rfl (by decide) (by decide) rfl ?_
          refine P_goto (pc := 59) (tgt := 4) dX8_minutesToAims_59 (by decide) ?_
          have hz : zMa (fun i => f (fm i) (am i)) (i + 1) = zMa (fun i => f (fm i) (am i)) i + nI (f (fm i) (am i)) := by show _ + nI (c200 (f (fm i) (am i))) = _; unfold c200; rw [if_pos hq]
          have h9 := ih (i + 1) (some (.int (nI (f (fm i) (am i))))) (by omega) (by omega)
          rw [hz] at h9
          exact h9
        · rw [zds_ge hq]
          refine P_iload_n (pc := 38) dX8_minutesToAims_38 rfl ?_
          refine P_iload (pc := 39) dX8_minutesToAims_39 rfl ?_
          refine P_bipush (pc := 41) (x := (-4)) dX8_minutesToAims_41 (by decide) ?_
          refine P_icmp_neF (pc := 43) (tgt := 52) dX8_minutesToAims_43 (by decide) rfl ?_
          refine P_sipush (pc := 46) (x := nI 200) dX8_minutesToAims_46 (by decide) ?_
          refine P_goto (pc := 49) (tgt := 54) dX8_minutesToAims_49 (by decide) ?_
          refine P_iadd (pc := 54) dX8_minutesToAims_54 ?_
          refine P_istore_n (pc := 55) dX8_minutesToAims_55 (by decide) rfl ?_
          refine P_iincN (pc := 56) (c := 1) dX8_minutesToAims_56 rfl (by decide) (by decide) rfl ?_
          refine P_goto (pc := 59) (tgt := 4) dX8_minutesToAims_59 (by decide) ?_
          have hz : zMa (fun i => f (fm i) (am i)) (i + 1) = zMa (fun i => f (fm i) (am i)) i + nI (200) := by show _ + nI (c200 (f (fm i) (am i))) = _; unfold c200; rw [if_neg hq]
          have h9 := ih (i + 1) (some (.int (-4))) (by omega) (by omega)
          rw [hz] at h9
          exact h9
  show ZP _ _ _ _ [some _, some _, none, none, none] _ _ _ _
  refine P_iconst (pc := 0) (x := nI 0) dX8_minutesToAims_0 (by decide) ?_
  refine P_istore_n (pc := 1) dX8_minutesToAims_1 (by decide) rfl ?_
  refine P_iconst (pc := 2) (x := nI 0) dX8_minutesToAims_2 (by decide) ?_
  refine P_istore_n (pc := 3) dX8_minutesToAims_3 (by decide) rfl ?_
  exact loop (m + 1) 0 none (by omega) (by omega)
set_option maxRecDepth 20000 in
theorem c_measure_36_98 {l : Launch} {D : va_G} {tw : Nat} {I : AI} {nc m : Nat} {sa sb sl : Nat → Nat} (hC : CSr nc m sa sb sl I 36) {w : Option Nat} (hwb : ∀ q, w = some q → q < 2 ^ 31) : ZP l D zm_X6_measure 0 (zent 6 [.ref 37, .ref 98, .int (zo (-1) w)]) [] I (zF tw) (fun v J G => v = none ∧ G = zF tw ∧ zRf 99 I J ∧ zRw 99 (fun a b => zFar (zNr sa sb sl w m) (8 * a + b)) J) := by
  have hnc8 := hC.2.1
  have hm12 := hC.2.2.2.1
  have loop3 : ∀ (d : Nat) (v : Nat) (v4 v5 : Option Value) (J : AI), nc - v < d → v ≤ nc → zRf 99 I J → zRw 99 (zD (zNr sa sb sl w m) v) J → ZP l D zm_X6_measure 101 [some (.ref 37), some (.ref 98), some (.int (zo (-1) w)), some (.int (nI v)), v4, v5] [] J (zF tw) (fun v J G => v = none ∧ G = zF tw ∧ zRf 99 I J ∧ zRw 99 (fun a b => zFar (zNr sa sb sl w m) (8 * a + b)) J) := by
    intro d
    induction d with
    | zero =>
      intro v v4 v5 J hd
      exact absurd hd (by omega)
    | succ d ih =>
      intro v v4 v5 J hd hv hF hR
      refine P_iload_n (pc := 101) dX6_measure_101 rfl ?_
      refine P_aload_n (pc := 102) dX6_measure_102 rfl ?_
      refine P_geti (pc := 103) 6 0 (x := nI (nc)) dX6_measure_103 fl_X6_26 sh_37 fi_6_0 ((congrFun (hF 37 (by omega)) 0).trans hC.1) ?_
      refine P_icmp_geN (pc := 106) (tgt := 121) dX6_measure_106 (by decide) (by omega) (by omega) (fun h106 => ?_) (fun h106 => ?_)
      · refine P_ret (pc := 121) dX6_measure_121 ?_
        have hv2 : v = nc := by omega
        subst hv2
        exact ⟨rfl, rfl, hF, hR.c (fun a b ha hb => zFar_nc (hC.ng (Nat.le_refl _)) hC.2.1 ha hb)⟩
      · refine P_aload_n (pc := 109) dX6_measure_109 rfl ?_
        refine P_aload_n (pc := 110) dX6_measure_110 rfl ?_
        refine P_iload_n (pc := 111) dX6_measure_111 rfl ?_
        obtain ⟨_, K, _, k1, rfl, rfl, hK1, hK2⟩ := c_shortenBy_36_98 (l := l) (D := D) (tw := tw) (I := J) (nc := nc) (m := v) (nr := zNr sa sb sl w m) ((congrFun (hF 37 (by omega)) 0).trans hC.1) hC.2.1 (hC.ng (Nat.le_refl _)) (by omega) hR
        refine P_callV (pc := 112) (S := []) (As := [_, _]) k1 dX6_measure_112 ok_X6_shortenBy ml_X6_39 iv_X6_shortenBy ⟨by decide, by decide⟩ zret_v rfl ⟨rfl, by decide⟩ sh_37 ⟨by decide, rfl⟩ (Nat.le_of_ble_eq_true rfl) ?_
        refine P_iincN (pc := 115) (c := 1) dX6_measure_115 rfl (by decide) (by decide) rfl ?_
        refine P_goto (pc := 118) (tgt := 101) dX6_measure_118 (by decide) ?_
        exact ih (v + 1) _ _ K (by omega) (by omega) (hF.trans hK1) hK2
  have loop2 : ∀ (d : Nat) (k : Nat) (v4 v5 : Option Value) (J : AI), m - k < d → k ≤ m → zRf 99 I J → zRw 99 (zSm sa sb sl w k) J → ZP l D zm_X6_measure 30 [some (.ref 37), some (.ref 98), some (.int (zo (-1) w)), some (.int (nI k)), v4, v5] [] J (zF tw) (fun v J G => v = none ∧ G = zF tw ∧ zRf 99 I J ∧ zRw 99 (fun a b => zFar (zNr sa sb sl w m) (8 * a + b)) J) := by
    intro d
    induction d with
    | zero =>
      intro k v4 v5 J hd
      exact absurd hd (by omega)
    | succ d ih =>
      intro k v4 v5 J hd hk hF hR
      refine P_iload_n (pc := 30) dX6_measure_30 rfl ?_
      refine P_aload_n (pc := 31) dX6_measure_31 rfl ?_
      refine P_geti (pc := 32) 6 1 (x := nI (m)) dX6_measure_32 fl_X6_30 sh_37 fi_6_1 ((congrFun (hF 37 (by omega)) 1).trans hC.2.2.1) ?_
      refine P_icmp_geN (pc := 35) (tgt := 99) dX6_measure_35 (by decide) (by omega) (by omega) (fun h35 => ?_) (fun h35 => ?_)
      · refine P_iconst (pc := 99) (x := nI 0) dX6_measure_99 (by decide) ?_
        refine P_istore_n (pc := 100) dX6_measure_100 (by decide) rfl ?_
        have hk2 : k = m := by omega
        subst hk2
        exact loop3 (nc + 1) 0 _ _ J (by omega) (by omega) hF (hR.c (fun a b _ _ => rfl))
      · have hs := (hC.2.2.2.2 k (by omega)).2
        refine P_aload_n (pc := 38) dX6_measure_38 rfl ?_
        refine P_getr (pc := 39) 6 2 dX6_measure_39 fl_X6_9 sh_37 fr_6_2 F_37_2 ?_
        refine P_iload_n (pc := 42) dX6_measure_42 rfl ?_
        refine P_iald (pc := 43) (k) (x := nI (sa k)) dX6_measure_43 sh_38 rfl (by omega) (by decide) ((congrFun (hF 38 (by omega)) _).trans (hC.2.2.2.2 k (by omega)).1.1) ?_
        refine P_istore (pc := 44) dX6_measure_44 (by decide) rfl ?_
        refine P_aload_n (pc := 46) dX6_measure_46 rfl ?_
        refine P_getr (pc := 47) 6 3 dX6_measure_47 fl_X6_15 sh_37 fr_6_3 F_37_3 ?_
        refine P_iload_n (pc := 50) dX6_measure_50 rfl ?_
        refine P_iald (pc := 51) (k) (x := nI (sb k)) dX6_measure_51 sh_39 rfl (by omega) (by decide) ((congrFun (hF 39 (by omega)) _).trans (hC.2.2.2.2 k (by omega)).1.2.1) ?_
        refine P_istore (pc := 52) dX6_measure_52 (by decide) rfl ?_
        refine P_iload_n (pc := 54) dX6_measure_54 rfl ?_
        refine P_iload_n (pc := 55) dX6_measure_55 rfl ?_
        refine P_icmp_eq (pc := 56) (tgt := 93) dX6_measure_56 (by decide) (fun h56 => ?_) (fun h56 => ?_)
        · refine P_iincN (pc := 93) (c := 1) dX6_measure_93 rfl (by decide) (by decide) rfl ?_
          refine P_goto (pc := 96) (tgt := 30) dX6_measure_96 (by decide) ?_
          exact ih (k + 1) _ _ J (by omega) (by omega) hF (hR.c (fun a b _ _ => zSm_w ((zo_eq1 (by omega) hwb).mp h56)))
        · refine P_aload_n (pc := 59) dX6_measure_59 rfl ?_
          refine P_iload (pc := 60) dX6_measure_60 rfl ?_
          refine P_aald (pc := 62) ((sa k)) dX6_measure_62 sh_98 (by decide) rfl (by omega) (by decide) (Fr_98 _ (by omega)) ?_
          refine P_iload (pc := 63) dX6_measure_63 rfl ?_
          refine P_aload_n (pc := 65) dX6_measure_65 rfl ?_
          refine P_getr (pc := 66) 6 4 dX6_measure_66 fl_X6_20 sh_37 fr_6_4 F_37_4 ?_
          refine P_iload (pc := 69) dX6_measure_69 rfl ?_
          refine P_aald (pc := 71) ((sa k)) dX6_measure_71 sh_40 (by decide) rfl (by omega) (by decide) (Fr_40 _ (by omega)) ?_
          refine P_iload (pc := 72) dX6_measure_72 rfl ?_
          refine P_iald (pc := 74) ((sb k)) (x := nI (sl k)) dX6_measure_74 (shr_41 _ (by omega)) rfl (by omega) (by decide) ((congrFun ((by first | exact hF | exact hF.u (by omega) : zRf 99 I _) _ (by omega)) _).trans (hC.2.2.2.2 k (by omega)).1.2.2) ?_
          refine P_iast (pc := 75) ((sb k)) dX6_measure_75 (shr_99 _ (by omega)) rfl (by omega) (by decide) ?_
          refine P_aload_n (pc := 76) dX6_measure_76 rfl ?_
          refine P_iload (pc := 77) dX6_measure_77 rfl ?_
          refine P_aald (pc := 79) ((sb k)) dX6_measure_79 sh_98 (by decide) rfl (by omega) (by decide) (Fr_98 _ (by omega)) ?_
          refine P_iload (pc := 80) dX6_measure_80 rfl ?_
          refine P_aload_n (pc := 82) dX6_measure_82 rfl ?_
          refine P_getr (pc := 83) 6 4 dX6_measure_83 fl_X6_20 sh_37 fr_6_4 F_37_4 ?_
          refine P_iload (pc := 86) dX6_measure_86 rfl ?_
          refine P_aald (pc := 88) ((sa k)) dX6_measure_88 sh_40 (by decide) rfl (by omega) (by decide) (Fr_40 _ (by omega)) ?_
          refine P_iload (pc := 89) dX6_measure_89 rfl ?_
          refine P_iald (pc := 91) ((sb k)) (x := nI (sl k)) dX6_measure_91 (shr_41 _ (by omega)) rfl (by omega) (by decide) ((congrFun ((by first | exact hF | exact hF.u (by omega) : zRf 99 I _) _ (by omega)) _).trans (hC.2.2.2.2 k (by omega)).1.2.2) ?_
          refine P_iast (pc := 92) ((sa k)) dX6_measure_92 (shr_99 _ (by omega)) rfl (by omega) (by decide) ?_
          refine P_iincN (pc := 93) (c := 1) dX6_measure_93 rfl (by decide) (by decide) rfl ?_
          refine P_goto (pc := 96) (tgt := 30) dX6_measure_96 (by decide) ?_
          exact ih (k + 1) _ _ _ (by omega) (by omega) ((hF.u (by omega)).u (by omega)) ((hR.u (by omega) (by omega) (by rw [zSh_1 hs.1, zds_lt (by omega)]) (fun a b ha hb e => zSh_o ha hb (by omega) (by omega) e)).u (by omega) (by omega) (by rw [zSm_1 (fun z => h56 ((zo_eq1 (by omega) hwb).mpr z)) hs.1, zds_lt (by omega)]) (fun a b ha hb e => zSm_o (fun z => h56 ((zo_eq1 (by omega) hwb).mpr z)) ha hb (by omega) (by omega) e))
  have loop1 : ∀ (d : Nat) (c : Nat) (J : AI), 8 - c < d → c ≤ 8 → zRf 99 I J → (∀ a b, a < c → b < 8 → J (99 + a) b = zds (zSm sa sb sl w 0 a b)) → ZP l D zm_X6_measure 2 [some (.ref 37), some (.ref 98), some (.int (zo (-1) w)), some (.int (nI c)), none, none] [] J (zF tw) (fun v J G => v = none ∧ G = zF tw ∧ zRf 99 I J ∧ zRw 99 (fun a b => zFar (zNr sa sb sl w m) (8 * a + b)) J) := by
    intro d
    induction d with
    | zero =>
      intro c J hd
      exact absurd hd (by omega)
    | succ d ih =>
      intro c J hd hc hF hR
      refine P_iload_n (pc := 2) dX6_measure_2 rfl ?_
      refine P_bipush (pc := 3) (x := nI 8) dX6_measure_3 (by decide) ?_
      refine P_icmp_geN (pc := 5) (tgt := 28) dX6_measure_5 (by decide) (by omega) (by omega) (fun h5 => ?_) (fun h5 => ?_)
      · refine P_iconst (pc := 28) (x := nI 0) dX6_measure_28 (by decide) ?_
        refine P_istore_n (pc := 29) dX6_measure_29 (by decide) rfl ?_
        exact loop2 (m + 1) 0 none none J (by omega) (by omega) hF (fun a b ha hb => hR a b (by omega) hb)
      · refine P_aload_n (pc := 8) dX6_measure_8 rfl ?_
        refine P_iload_n (pc := 9) dX6_measure_9 rfl ?_
        refine P_aald (pc := 10) (c) dX6_measure_10 sh_98 (by decide) rfl (by omega) (by decide) (Fr_98 _ (by omega)) ?_
        refine P_bipush (pc := 11) (x := (-4)) dX6_measure_11 (by decide) ?_
        obtain ⟨_, K, _, k1, rfl, rfl, hK1, hK2⟩ := c_fill (l := l) (D := D) (tw := tw) (I := J) (a := 99 + c) (n := 8) (x := (-4)) (shr_99 c (by omega)) (by decide)
        refine P_callS (pc := 13) (S := []) (As := [_, _]) k1 dX6_measure_13 ok_J7_fill_53178 ml_X6_33 is_J7_fill_53178 ⟨by decide, by decide⟩ zret_v rfl ⟨rfl, by decide⟩ (Nat.le_of_ble_eq_true rfl) ?_
        refine P_aload_n (pc := 16) dX6_measure_16 rfl ?_
        refine P_iload_n (pc := 17) dX6_measure_17 rfl ?_
        refine P_aald (pc := 18) (c) dX6_measure_18 sh_98 (by decide) rfl (by omega) (by decide) (Fr_98 _ (by omega)) ?_
        refine P_iload_n (pc := 19) dX6_measure_19 rfl ?_
        refine P_iconst (pc := 20) (x := nI 0) dX6_measure_20 (by decide) ?_
        refine P_iast (pc := 21) (c) dX6_measure_21 (shr_99 _ (by omega)) rfl (by omega) (by decide) ?_
        refine P_iincN (pc := 22) (c := 1) dX6_measure_22 rfl (by decide) (by decide) rfl ?_
        refine P_goto (pc := 25) (tgt := 2) dX6_measure_25 (by decide) ?_
        refine ih (c + 1) _ (by omega) (by omega) (zRf.u (fun a ha => (hK1 a (by omega)).trans (hF a ha)) (by omega)) (fun a b ha hb => ?_)
        by_cases e : a = c
        · subst e
          by_cases e2 : b = a
          · subst e2; rw [zu_s]; unfold zSm; rw [if_pos rfl]; rfl
          · rw [zu_n _ _ e2, hK2 b hb]; unfold zSm; rw [if_neg (fun z => e2 z.symm)]; rfl
        · rw [zu_o _ _ (by omega), hK1 _ (by omega)]
          exact hR a b (by omega) hb
  show ZP _ _ _ _ [some _, some _, some _, none, none, none] _ _ _ _
  refine P_iconst (pc := 0) (x := nI 0) dX6_measure_0 (by decide) ?_
  refine P_istore_n (pc := 1) dX6_measure_1 (by decide) rfl ?_
  exact loop1 9 0 I (by omega) (by omega) zRf.rf (fun a b ha hb => by omega)
set_option maxRecDepth 20000 in
theorem c_minutes_36_98 {l : Launch} {D : va_G} {tw : Nat} {I : AI} {m : Nat} {kd fm am to : Nat → Nat} {f : Nat → Nat → Nat} (hW : CWk m kd fm am to I 62) (hR : zRw 99 f I) : ZP l D zm_X8_minutesToAims 0 (zent 5 [.ref 36, .ref 98]) [] I (zF tw) (fun v J G => v = some (zMa (fun i => f (fm i) (am i)) m) ∧ I = J ∧ G = zF tw) := by
  have hm := hW.2.1
  have loop : ∀ (d : Nat) (i : Nat) (v4 : Option Value), m - i < d → i ≤ m → ZP l D zm_X8_minutesToAims 4 [some (.ref 36), some (.ref 98), some (.int (zMa (fun i => f (fm i) (am i)) i)), some (.int (nI i)), v4] [] I (zF tw) (fun v J G => v = some (zMa (fun i => f (fm i) (am i)) m) ∧ I = J ∧ G = zF tw) := by
    intro d
    induction d with
    | zero =>
      intro i v4 hd
      exact absurd hd (by omega)
    | succ d ih =>
      intro i v4 hd hi
      refine P_iload_n (pc := 4) dX8_minutesToAims_4 rfl ?_
      refine P_aload_n (pc := 5) dX8_minutesToAims_5 rfl ?_
      refine P_getr (pc := 6) 8 2 dX8_minutesToAims_6 fl_X8_28 sh_36 fr_8_2 F_36_2 ?_
      refine P_geti (pc := 9) 10 4 (x := nI (m)) dX8_minutesToAims_9 fl_X8_39 sh_62 fi_10_4 (hW.1) ?_
      refine P_icmp_geN (pc := 12) (tgt := 62) dX8_minutesToAims_12 (by decide) (by omega) (by omega) (fun h12 => ?_) (fun h12 => ?_)
      · refine P_iload_n (pc := 62) dX8_minutesToAims_62 rfl ?_
        refine P_iret (pc := 63) dX8_minutesToAims_63 ?_
        have hi2 : i = m := by omega
        subst hi2
        exact ⟨rfl, rfl, rfl⟩
      · have hb := hW.2.2 i (by omega)
        refine P_aload_n (pc := 15) dX8_minutesToAims_15 rfl ?_
        refine P_aload_n (pc := 16) dX8_minutesToAims_16 rfl ?_
        refine P_getr (pc := 17) 8 2 dX8_minutesToAims_17 fl_X8_28 sh_36 fr_8_2 F_36_2 ?_
        refine P_getr (pc := 20) 10 1 dX8_minutesToAims_20 fl_X8_49 sh_62 fr_10_1 F_62_1 ?_
        refine P_iload_n (pc := 23) dX8_minutesToAims_23 rfl ?_
        refine P_iald (pc := 24) (i) (x := nI (fm i)) dX8_minutesToAims_24 sh_64 rfl (by omega) (by decide) ((hW.2.2 _ (by omega)).1.2.1) ?_
        refine P_aald (pc := 25) ((fm i)) dX8_minutesToAims_25 sh_98 (by decide) rfl (by omega) (by decide) (Fr_98 _ (by omega)) ?_
        refine P_aload_n (pc := 26) dX8_minutesToAims_26 rfl ?_
        refine P_getr (pc := 27) 8 2 dX8_minutesToAims_27 fl_X8_28 sh_36 fr_8_2 F_36_2 ?_
        refine P_getr (pc := 30) 10 2 dX8_minutesToAims_30 fl_X8_53 sh_62 fr_10_2 F_62_2 ?_
        refine P_iload_n (pc := 33) dX8_minutesToAims_33 rfl ?_
        refine P_iald (pc := 34) (i) (x := nI (am i)) dX8_minutesToAims_34 sh_65 rfl (by omega) (by decide) ((hW.2.2 _ (by omega)).1.2.2.1) ?_
        refine P_iald (pc := 35) ((am i)) (x := zds (f (fm i) (am i))) dX8_minutesToAims_35 (shr_99 _ (by omega)) rfl (by omega) (by decide) (hR _ _ (by omega) (by omega)) ?_
        refine P_istore (pc := 36) dX8_minutesToAims_36 (by decide) rfl ?_
        by_cases hq : f (fm i) (am i) < 10000
        · rw [zds_lt hq]
          refine P_iload_n (pc := 38) dX8_minutesToAims_38 rfl ?_
          refine P_iload (pc := 39) dX8_minutesToAims_39 rfl ?_
          refine P_bipush (pc := 41) (x := (-4)) dX8_minutesToAims_41 (by decide) ?_
          refine P_icmp_neT (pc := 43) (tgt := 52) dX8_minutesToAims_43 (by decide) (zne4 (by omega)) ?_
          refine P_iload (pc := 52) dX8_minutesToAims_52 rfl ?_
          refine P_iadd (pc := 54) dX8_minutesToAims_54 ?_
          refine P_istore_n (pc := 55) dX8_minutesToAims_55 (by decide) rfl ?_
          refine P_iincN (pc := 56) (c := 1) dX8_minutesToAims_56 rfl (by decide) (by decide) rfl ?_
          refine P_goto (pc := 59) (tgt := 4) dX8_minutesToAims_59 (by decide) ?_
          have hz : zMa (fun i => f (fm i) (am i)) (i + 1) = zMa (fun i => f (fm i) (am i)) i + nI (f (fm i) (am i)) := by show _ + nI (c200 (f (fm i) (am i))) = _; unfold c200; rw [if_pos hq]
          have h9 := ih (i + 1) (some (.int (nI (f (fm i) (am i))))) (by omega) (by omega)
          rw [hz] at h9
          exact h9
        · rw [zds_ge hq]
          refine P_iload_n (pc := 38) dX8_minutesToAims_38 rfl ?_
          refine P_iload (pc := 39) dX8_minutesToAims_39 rfl ?_
          refine P_bipush (pc := 41) (x := (-4)) dX8_minutesToAims_41 (by decide) ?_
          refine P_icmp_neF (pc := 43) (tgt := 52) dX8_minutesToAims_43 (by decide) rfl ?_
          refine P_sipush (pc := 46) (x := nI 200) dX8_minutesToAims_46 (by decide) ?_
          refine P_goto (pc := 49) (tgt := 54) dX8_minutesToAims_49 (by decide) ?_
          refine P_iadd (pc := 54) dX8_minutesToAims_54 ?_
          refine P_istore_n (pc := 55) dX8_minutesToAims_55 (by decide) rfl ?_
          refine P_iincN (pc := 56) (c := 1) dX8_minutesToAims_56 rfl (by decide) (by decide) rfl ?_
          refine P_goto (pc := 59) (tgt := 4) dX8_minutesToAims_59 (by decide) ?_
          have hz : zMa (fun i => f (fm i) (am i)) (i + 1) = zMa (fun i => f (fm i) (am i)) i + nI (200) := by show _ + nI (c200 (f (fm i) (am i))) = _; unfold c200; rw [if_neg hq]
          have h9 := ih (i + 1) (some (.int (-4))) (by omega) (by omega)
          rw [hz] at h9
          exact h9
  show ZP _ _ _ _ [some _, some _, none, none, none] _ _ _ _
  refine P_iconst (pc := 0) (x := nI 0) dX8_minutesToAims_0 (by decide) ?_
  refine P_istore_n (pc := 1) dX8_minutesToAims_1 (by decide) rfl ?_
  refine P_iconst (pc := 2) (x := nI 0) dX8_minutesToAims_2 (by decide) ?_
  refine P_istore_n (pc := 3) dX8_minutesToAims_3 (by decide) rfl ?_
  exact loop (m + 1) 0 none (by omega) (by omega)
