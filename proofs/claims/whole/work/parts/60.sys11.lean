theorem c_isWithinN {l : Launch} {D : va_G} {tw : Nat} {I : AI} {j n : Nat} (hj : j < 2 ^ 31) (hn : n < 2 ^ 31) : ZP l D zm_X11_isWithin 0 (zent 2 [.int (nI j), .int (nI n)]) [] I (zF tw) (fun v J G => v = some (zb (decide (j < n))) ∧ I = J ∧ G = zF tw) := by
  rw [← zix_n hj]
  exact c_isWithin hn
theorem nI_pos0 {n : Nat} (h : n < 2 ^ 31) : (0 : Int32) < nI n ↔ 0 < n := by
  have := nI_ltI (show 0 < 2 ^ 31 by decide) h
  rw [show nI 0 = (0 : Int32) from rfl] at this
  exact this
set_option maxRecDepth 20000 in
theorem c_acceptCorners_5 {l : Launch} {D : va_G} {tw : Nat} {I : AI} {s : Nat → Nat → Nat} {f : Bool} (hD : DrC s I 5) (hO : DrF s f) {n0 : Nat} (hn0 : I 4 0 = nI n0) (hb0 : n0 ≤ 99) : ZP l D zm_X2_acceptCorners 0 (zent 2 [.ref 3, .ref 5]) [] I (zF tw) (fun v J G => v = some (zb (decide (1 ≤ n0 ∧ n0 ≤ 8))) ∧ G = zF tw ∧ zDf 5 I J ∧ ((1 ≤ n0 ∧ n0 ≤ 8) → DrC (dC s n0) J 5)) := by
  obtain ⟨⟨d1, d2, d3, d4, d5⟩, dS1, dG1, dW1, dR1, dF1⟩ := hO
  show ZP _ _ _ _ [some _, some _] _ _ _ _
  refine P_aload_n (pc := 0) dX2_acceptCorners_0 rfl ?_
  refine P_getr (pc := 1) 2 0 dX2_acceptCorners_1 fl_X2_9 sh_3 fr_2_0 F_3_0 ?_
  refine P_iconst (pc := 4) (x := nI 0) dX2_acceptCorners_4 (by decide) ?_
  refine P_iald (pc := 5) (0) (x := nI (n0)) dX2_acceptCorners_5 sh_4 rfl (by omega) (by decide) (hn0) ?_
  refine P_iconst (pc := 6) (x := nI 1) dX2_acceptCorners_6 (by decide) ?_
  refine P_icmp_ltN (pc := 7) (tgt := 21) dX2_acceptCorners_7 (by decide) (by omega) (by omega) (fun h7 => ?_) (fun h7 => ?_)
  · refine P_iconst (pc := 21) (x := nI 0) dX2_acceptCorners_21 (by decide) ?_
    refine P_iret (pc := 22) dX2_acceptCorners_22 ?_
    exact ⟨congrArg some (zb_f (by omega)), rfl, zDf.rf, fun z => by omega⟩
  · refine P_aload_n (pc := 10) dX2_acceptCorners_10 rfl ?_
    refine P_getr (pc := 11) 2 0 dX2_acceptCorners_11 fl_X2_9 sh_3 fr_2_0 F_3_0 ?_
    refine P_iconst (pc := 14) (x := nI 0) dX2_acceptCorners_14 (by decide) ?_
    refine P_iald (pc := 15) (0) (x := nI (n0)) dX2_acceptCorners_15 sh_4 rfl (by omega) (by decide) (hn0) ?_
    refine P_bipush (pc := 16) (x := nI 8) dX2_acceptCorners_16 (by decide) ?_
    refine P_icmp_leN (pc := 18) (tgt := 23) dX2_acceptCorners_18 (by decide) (by omega) (by omega) (fun h18 => ?_) (fun h18 => ?_)
    · refine P_aload_n (pc := 23) dX2_acceptCorners_23 rfl ?_
      refine P_getr (pc := 24) 8 0 dX2_acceptCorners_24 fl_X2_65 sh_5 fr_8_0 F_5_0 ?_
      refine P_aload_n (pc := 27) dX2_acceptCorners_27 rfl ?_
      refine P_getr (pc := 28) 2 0 dX2_acceptCorners_28 fl_X2_9 sh_3 fr_2_0 F_3_0 ?_
      refine P_iconst (pc := 31) (x := nI 0) dX2_acceptCorners_31 (by decide) ?_
      refine P_iald (pc := 32) (0) (x := nI (n0)) dX2_acceptCorners_32 sh_4 rfl (by omega) (by decide) (hn0) ?_
      refine P_puti (pc := 33) 6 0 dX2_acceptCorners_33 fl_X2_69 sh_6 fp_6_0 rfl rfl ?_
      refine P_iconst (pc := 36) (x := nI 1) dX2_acceptCorners_36 (by decide) ?_
      refine P_iret (pc := 37) dX2_acceptCorners_37 ?_
      exact ⟨congrArg some (zb_t (by omega)), rfl, zDf.rf.u (by decide), fun _ => hD.C⟩
    · refine P_iconst (pc := 21) (x := nI 0) dX2_acceptCorners_21 (by decide) ?_
      refine P_iret (pc := 22) dX2_acceptCorners_22 ?_
      exact ⟨congrArg some (zb_f (by omega)), rfl, zDf.rf, fun z => by omega⟩
set_option maxRecDepth 20000 in
theorem c_acceptRates_5 {l : Launch} {D : va_G} {tw : Nat} {I : AI} {s : Nat → Nat → Nat} {f : Bool} (hD : DrC s I 5) (hO : DrF s f) {n0 n1 n2 : Nat} (hn0 : I 4 0 = nI n0) (hn1 : I 4 1 = nI n1) (hn2 : I 4 2 = nI n2) (hb0 : n0 ≤ 99) (hb1 : n1 ≤ 99) (hb2 : n2 ≤ 99) : ZP l D zm_X2_acceptRates 0 (zent 2 [.ref 3, .ref 5]) [] I (zF tw) (fun v J G => v = some (zb (decide (n0 < 10 ∧ n1 < 10 ∧ n2 < 10))) ∧ G = zF tw ∧ zDf 5 I J ∧ ((n0 < 10 ∧ n1 < 10 ∧ n2 < 10) → DrC (dR s n0 n1 n2) J 5)) := by
  obtain ⟨⟨d1, d2, d3, d4, d5⟩, dS1, dG1, dW1, dR1, dF1⟩ := hO
  show ZP _ _ _ _ [some _, some _] _ _ _ _
  refine P_aload_n (pc := 0) dX2_acceptRates_0 rfl ?_
  refine P_getr (pc := 1) 2 0 dX2_acceptRates_1 fl_X2_9 sh_3 fr_2_0 F_3_0 ?_
  refine P_iconst (pc := 4) (x := nI 0) dX2_acceptRates_4 (by decide) ?_
  refine P_iald (pc := 5) (0) (x := nI (n0)) dX2_acceptRates_5 sh_4 rfl (by omega) (by decide) (hn0) ?_
  refine P_bipush (pc := 6) (x := nI 10) dX2_acceptRates_6 (by decide) ?_
  obtain ⟨_, _, _, ki1, rfl, rfl, rfl⟩ := c_isWithinN (l := l) (D := D) (tw := tw) (I := I) (j := (n0)) (n := 10) (by omega) (by omega)
  refine P_callS (pc := 8) (S := []) (As := [_, _]) ki1 dX2_acceptRates_8 ok_X11_isWithin ml_X2_77 is_X11_isWithin ⟨by decide, by decide⟩ (zret_b (decide ((n0) < 10))) rfl ⟨rfl, by decide⟩ (Nat.le_of_ble_eq_true rfl) ?_
  refine P_if_eqB (pc := 11) (tgt := 42) dX2_acceptRates_11 (by decide) (fun h11 => ?_) (fun h11 => ?_)
  · refine P_iconst (pc := 42) (x := nI 0) dX2_acceptRates_42 (by decide) ?_
    refine P_iret (pc := 43) dX2_acceptRates_43 ?_
    have g11 := of_decide_eq_false h11
    exact ⟨congrArg some (zb_f (by omega)), rfl, zDf.rf, fun z => by omega⟩
  · refine P_aload_n (pc := 14) dX2_acceptRates_14 rfl ?_
    refine P_getr (pc := 15) 2 0 dX2_acceptRates_15 fl_X2_9 sh_3 fr_2_0 F_3_0 ?_
    refine P_iconst (pc := 18) (x := nI 1) dX2_acceptRates_18 (by decide) ?_
    refine P_iald (pc := 19) (1) (x := nI (n1)) dX2_acceptRates_19 sh_4 rfl (by omega) (by decide) (hn1) ?_
    refine P_bipush (pc := 20) (x := nI 10) dX2_acceptRates_20 (by decide) ?_
    obtain ⟨_, _, _, ki2, rfl, rfl, rfl⟩ := c_isWithinN (l := l) (D := D) (tw := tw) (I := I) (j := (n1)) (n := 10) (by omega) (by omega)
    refine P_callS (pc := 22) (S := []) (As := [_, _]) ki2 dX2_acceptRates_22 ok_X11_isWithin ml_X2_77 is_X11_isWithin ⟨by decide, by decide⟩ (zret_b (decide ((n1) < 10))) rfl ⟨rfl, by decide⟩ (Nat.le_of_ble_eq_true rfl) ?_
    refine P_if_eqB (pc := 25) (tgt := 42) dX2_acceptRates_25 (by decide) (fun h25 => ?_) (fun h25 => ?_)
    · refine P_iconst (pc := 42) (x := nI 0) dX2_acceptRates_42 (by decide) ?_
      refine P_iret (pc := 43) dX2_acceptRates_43 ?_
      have g11 := of_decide_eq_true h11
      have g25 := of_decide_eq_false h25
      exact ⟨congrArg some (zb_f (by omega)), rfl, zDf.rf, fun z => by omega⟩
    · refine P_aload_n (pc := 28) dX2_acceptRates_28 rfl ?_
      refine P_getr (pc := 29) 2 0 dX2_acceptRates_29 fl_X2_9 sh_3 fr_2_0 F_3_0 ?_
      refine P_iconst (pc := 32) (x := nI 2) dX2_acceptRates_32 (by decide) ?_
      refine P_iald (pc := 33) (2) (x := nI (n2)) dX2_acceptRates_33 sh_4 rfl (by omega) (by decide) (hn2) ?_
      refine P_bipush (pc := 34) (x := nI 10) dX2_acceptRates_34 (by decide) ?_
      obtain ⟨_, _, _, ki3, rfl, rfl, rfl⟩ := c_isWithinN (l := l) (D := D) (tw := tw) (I := I) (j := (n2)) (n := 10) (by omega) (by omega)
      refine P_callS (pc := 36) (S := []) (As := [_, _]) ki3 dX2_acceptRates_36 ok_X11_isWithin ml_X2_77 is_X11_isWithin ⟨by decide, by decide⟩ (zret_b (decide ((n2) < 10))) rfl ⟨rfl, by decide⟩ (Nat.le_of_ble_eq_true rfl) ?_
      refine P_if_neB (pc := 39) (tgt := 44) dX2_acceptRates_39 (by decide) (fun h39 => ?_) (fun h39 => ?_)
      · refine P_aload_n (pc := 44) dX2_acceptRates_44 rfl ?_
        refine P_aload_n (pc := 45) dX2_acceptRates_45 rfl ?_
        refine P_getr (pc := 46) 2 0 dX2_acceptRates_46 fl_X2_9 sh_3 fr_2_0 F_3_0 ?_
        refine P_iconst (pc := 49) (x := nI 0) dX2_acceptRates_49 (by decide) ?_
        refine P_iald (pc := 50) (0) (x := nI (n0)) dX2_acceptRates_50 sh_4 rfl (by omega) (by decide) (hn0) ?_
        refine P_puti (pc := 51) 8 3 dX2_acceptRates_51 fl_X2_108 sh_5 fp_8_3 rfl rfl ?_
        refine P_aload_n (pc := 54) dX2_acceptRates_54 rfl ?_
        refine P_aload_n (pc := 55) dX2_acceptRates_55 rfl ?_
        refine P_getr (pc := 56) 2 0 dX2_acceptRates_56 fl_X2_9 sh_3 fr_2_0 F_3_0 ?_
        refine P_iconst (pc := 59) (x := nI 1) dX2_acceptRates_59 (by decide) ?_
        refine P_iald (pc := 60) (1) (x := nI (n1)) dX2_acceptRates_60 sh_4 rfl (by omega) (by decide) (hn1) ?_
        refine P_puti (pc := 61) 8 4 dX2_acceptRates_61 fl_X2_111 sh_5 fp_8_4 rfl rfl ?_
        refine P_aload_n (pc := 64) dX2_acceptRates_64 rfl ?_
        refine P_aload_n (pc := 65) dX2_acceptRates_65 rfl ?_
        refine P_getr (pc := 66) 2 0 dX2_acceptRates_66 fl_X2_9 sh_3 fr_2_0 F_3_0 ?_
        refine P_iconst (pc := 69) (x := nI 2) dX2_acceptRates_69 (by decide) ?_
        refine P_iald (pc := 70) (2) (x := nI (n2)) dX2_acceptRates_70 sh_4 rfl (by omega) (by decide) (hn2) ?_
        refine P_puti (pc := 71) 8 5 dX2_acceptRates_71 fl_X2_114 sh_5 fp_8_5 rfl rfl ?_
        refine P_iconst (pc := 74) (x := nI 1) dX2_acceptRates_74 (by decide) ?_
        refine P_iret (pc := 75) dX2_acceptRates_75 ?_
        have g11 := of_decide_eq_true h11
        have g25 := of_decide_eq_true h25
        have g39 := of_decide_eq_true h39
        exact ⟨congrArg some (zb_t (by omega)), rfl, ((zDf.rf.u (by decide)).u (by decide)).u (by decide), fun _ => hD.R⟩
      · refine P_iconst (pc := 42) (x := nI 0) dX2_acceptRates_42 (by decide) ?_
        refine P_iret (pc := 43) dX2_acceptRates_43 ?_
        have g11 := of_decide_eq_true h11
        have g25 := of_decide_eq_true h25
        have g39 := of_decide_eq_false h39
        exact ⟨congrArg some (zb_f (by omega)), rfl, zDf.rf, fun z => by omega⟩
set_option maxRecDepth 20000 in
theorem c_acceptSign_5 {l : Launch} {D : va_G} {tw : Nat} {I : AI} {s : Nat → Nat → Nat} {f : Bool} (hD : DrC s I 5) (hO : DrF s f) {n0 n1 n2 : Nat} (hn0 : I 4 0 = nI n0) (hn1 : I 4 1 = nI n1) (hn2 : I 4 2 = nI n2) (hb0 : n0 ≤ 99) (hb1 : n1 ≤ 99) (hb2 : n2 ≤ 99) : ZP l D zm_X2_acceptSign 0 (zent 3 [.ref 3, .ref 5]) [] I (zF tw) (fun v J G => v = some (zb (decide (s 109 13 < 8 ∧ n0 < s 111 1 ∧ n1 < s 111 1 ∧ n2 < s 111 1))) ∧ G = zF tw ∧ zDf 5 I J ∧ ((s 109 13 < 8 ∧ n0 < s 111 1 ∧ n1 < s 111 1 ∧ n2 < s 111 1) → DrC (dG s n0 n1 n2) J 5)) := by
  obtain ⟨⟨d1, d2, d3, d4, d5⟩, dS1, dG1, dW1, dR1, dF1⟩ := hO
  show ZP _ _ _ _ [some _, some _, none] _ _ _ _
  refine P_aload_n (pc := 0) dX2_acceptSign_0 rfl ?_
  refine P_getr (pc := 1) 8 0 dX2_acceptSign_1 fl_X2_65 sh_5 fr_8_0 F_5_0 ?_
  refine P_geti (pc := 4) 6 0 (x := nI (s 111 1)) dX2_acceptSign_4 fl_X2_69 sh_6 fi_6_0 (hD.1.1) ?_
  refine P_istore_n (pc := 7) dX2_acceptSign_7 (by decide) rfl ?_
  refine P_aload_n (pc := 8) dX2_acceptSign_8 rfl ?_
  refine P_getr (pc := 9) 8 1 dX2_acceptSign_9 fl_X2_89 sh_5 fr_8_1 F_5_1 ?_
  refine P_geti (pc := 12) 5 3 (x := nI (s 109 13)) dX2_acceptSign_12 fl_X2_93 sh_27 fi_5_3 (hD.2.2.2.1.1) ?_
  refine P_bipush (pc := 15) (x := nI 8) dX2_acceptSign_15 (by decide) ?_
  refine P_icmp_geN (pc := 17) (tgt := 59) dX2_acceptSign_17 (by decide) (by omega) (by omega) (fun h17 => ?_) (fun h17 => ?_)
  · refine P_iconst (pc := 59) (x := nI 0) dX2_acceptSign_59 (by decide) ?_
    refine P_iret (pc := 60) dX2_acceptSign_60 ?_
    exact ⟨congrArg some (zb_f (by omega)), rfl, zDf.rf, fun z => by omega⟩
  · refine P_aload_n (pc := 20) dX2_acceptSign_20 rfl ?_
    refine P_getr (pc := 21) 2 0 dX2_acceptSign_21 fl_X2_9 sh_3 fr_2_0 F_3_0 ?_
    refine P_iconst (pc := 24) (x := nI 0) dX2_acceptSign_24 (by decide) ?_
    refine P_iald (pc := 25) (0) (x := nI (n0)) dX2_acceptSign_25 sh_4 rfl (by omega) (by decide) (hn0) ?_
    refine P_iload_n (pc := 26) dX2_acceptSign_26 rfl ?_
    obtain ⟨_, _, _, ki1, rfl, rfl, rfl⟩ := c_isWithinN (l := l) (D := D) (tw := tw) (I := I) (j := (n0)) (n := (s 111 1)) (by omega) (by omega)
    refine P_callS (pc := 27) (S := []) (As := [_, _]) ki1 dX2_acceptSign_27 ok_X11_isWithin ml_X2_77 is_X11_isWithin ⟨by decide, by decide⟩ (zret_b (decide ((n0) < (s 111 1)))) rfl ⟨rfl, by decide⟩ (Nat.le_of_ble_eq_true rfl) ?_
    refine P_if_eqB (pc := 30) (tgt := 59) dX2_acceptSign_30 (by decide) (fun h30 => ?_) (fun h30 => ?_)
    · refine P_iconst (pc := 59) (x := nI 0) dX2_acceptSign_59 (by decide) ?_
      refine P_iret (pc := 60) dX2_acceptSign_60 ?_
      have g30 := of_decide_eq_false h30
      exact ⟨congrArg some (zb_f (by omega)), rfl, zDf.rf, fun z => by omega⟩
    · refine P_aload_n (pc := 33) dX2_acceptSign_33 rfl ?_
      refine P_getr (pc := 34) 2 0 dX2_acceptSign_34 fl_X2_9 sh_3 fr_2_0 F_3_0 ?_
      refine P_iconst (pc := 37) (x := nI 1) dX2_acceptSign_37 (by decide) ?_
      refine P_iald (pc := 38) (1) (x := nI (n1)) dX2_acceptSign_38 sh_4 rfl (by omega) (by decide) (hn1) ?_
      refine P_iload_n (pc := 39) dX2_acceptSign_39 rfl ?_
      obtain ⟨_, _, _, ki2, rfl, rfl, rfl⟩ := c_isWithinN (l := l) (D := D) (tw := tw) (I := I) (j := (n1)) (n := (s 111 1)) (by omega) (by omega)
      refine P_callS (pc := 40) (S := []) (As := [_, _]) ki2 dX2_acceptSign_40 ok_X11_isWithin ml_X2_77 is_X11_isWithin ⟨by decide, by decide⟩ (zret_b (decide ((n1) < (s 111 1)))) rfl ⟨rfl, by decide⟩ (Nat.le_of_ble_eq_true rfl) ?_
      refine P_if_eqB (pc := 43) (tgt := 59) dX2_acceptSign_43 (by decide) (fun h43 => ?_) (fun h43 => ?_)
      · refine P_iconst (pc := 59) (x := nI 0) dX2_acceptSign_59 (by decide) ?_
        refine P_iret (pc := 60) dX2_acceptSign_60 ?_
        have g30 := of_decide_eq_true h30
        have g43 := of_decide_eq_false h43
        exact ⟨congrArg some (zb_f (by omega)), rfl, zDf.rf, fun z => by omega⟩
      · refine P_aload_n (pc := 46) dX2_acceptSign_46 rfl ?_
        refine P_getr (pc := 47) 2 0 dX2_acceptSign_47 fl_X2_9 sh_3 fr_2_0 F_3_0 ?_
        refine P_iconst (pc := 50) (x := nI 2) dX2_acceptSign_50 (by decide) ?_
        refine P_iald (pc := 51) (2) (x := nI (n2)) dX2_acceptSign_51 sh_4 rfl (by omega) (by decide) (hn2) ?_
        refine P_iload_n (pc := 52) dX2_acceptSign_52 rfl ?_
        obtain ⟨_, _, _, ki3, rfl, rfl, rfl⟩ := c_isWithinN (l := l) (D := D) (tw := tw) (I := I) (j := (n2)) (n := (s 111 1)) (by omega) (by omega)
        refine P_callS (pc := 53) (S := []) (As := [_, _]) ki3 dX2_acceptSign_53 ok_X11_isWithin ml_X2_77 is_X11_isWithin ⟨by decide, by decide⟩ (zret_b (decide ((n2) < (s 111 1)))) rfl ⟨rfl, by decide⟩ (Nat.le_of_ble_eq_true rfl) ?_
        refine P_if_neB (pc := 56) (tgt := 61) dX2_acceptSign_56 (by decide) (fun h56 => ?_) (fun h56 => ?_)
        · refine P_aload_n (pc := 61) dX2_acceptSign_61 rfl ?_
          refine P_getr (pc := 62) 8 1 dX2_acceptSign_62 fl_X2_89 sh_5 fr_8_1 F_5_1 ?_
          refine P_aload_n (pc := 65) dX2_acceptSign_65 rfl ?_
          refine P_getr (pc := 66) 8 1 dX2_acceptSign_66 fl_X2_89 sh_5 fr_8_1 F_5_1 ?_
          refine P_geti (pc := 69) 5 3 (x := nI (s 109 13)) dX2_acceptSign_69 fl_X2_93 sh_27 fi_5_3 (hD.2.2.2.1.1) ?_
          refine P_aload_n (pc := 72) dX2_acceptSign_72 rfl ?_
          refine P_getr (pc := 73) 2 0 dX2_acceptSign_73 fl_X2_9 sh_3 fr_2_0 F_3_0 ?_
          refine P_iconst (pc := 76) (x := nI 0) dX2_acceptSign_76 (by decide) ?_
          refine P_iald (pc := 77) (0) (x := nI (n0)) dX2_acceptSign_77 sh_4 rfl (by omega) (by decide) (hn0) ?_
          refine P_aload_n (pc := 78) dX2_acceptSign_78 rfl ?_
          refine P_getr (pc := 79) 2 0 dX2_acceptSign_79 fl_X2_9 sh_3 fr_2_0 F_3_0 ?_
          refine P_iconst (pc := 82) (x := nI 1) dX2_acceptSign_82 (by decide) ?_
          refine P_iald (pc := 83) (1) (x := nI (n1)) dX2_acceptSign_83 sh_4 rfl (by omega) (by decide) (hn1) ?_
          refine P_aload_n (pc := 84) dX2_acceptSign_84 rfl ?_
          refine P_getr (pc := 85) 2 0 dX2_acceptSign_85 fl_X2_9 sh_3 fr_2_0 F_3_0 ?_
          refine P_iconst (pc := 88) (x := nI 2) dX2_acceptSign_88 (by decide) ?_
          refine P_iald (pc := 89) (2) (x := nI (n2)) dX2_acceptSign_89 sh_4 rfl (by omega) (by decide) (hn2) ?_
          have g30 := of_decide_eq_true h30
          have g43 := of_decide_eq_true h43
          have g56 := of_decide_eq_true h56
          obtain ⟨_, K, _, kc, rfl, rfl, hK1, hK2⟩ := c_insert_27 (l := l) (D := D) (tw := tw) (I := I) hD.2.2.2.1 (k := s 109 13) (c := n0) (a := n1) (n := n2) (Nat.le_refl _) (by omega) (by omega) (by omega) (by omega)
          refine P_callV (pc := 90) (S := []) (As := [_, _, _, _]) kc dX2_acceptSign_90 ok_X5_insert ml_X2_96 iv_X5_insert ⟨by decide, by decide⟩ zret_v rfl ⟨rfl, by decide⟩ sh_27 ⟨by decide, rfl⟩ (Nat.le_of_ble_eq_true rfl) ?_
          refine P_iconst (pc := 93) (x := nI 1) dX2_acceptSign_93 (by decide) ?_
          refine P_iret (pc := 94) dX2_acceptSign_94 ?_
          exact ⟨congrArg some (zb_t (by omega)), rfl, hK1.df (by decide), fun _ => hD.G hK1 hK2⟩
        · refine P_iconst (pc := 59) (x := nI 0) dX2_acceptSign_59 (by decide) ?_
          refine P_iret (pc := 60) dX2_acceptSign_60 ?_
          have g30 := of_decide_eq_true h30
          have g43 := of_decide_eq_true h43
          have g56 := of_decide_eq_false h56
          exact ⟨congrArg some (zb_f (by omega)), rfl, zDf.rf, fun z => by omega⟩
set_option maxRecDepth 20000 in
theorem c_acceptWalker_5 {l : Launch} {D : va_G} {tw : Nat} {I : AI} {s : Nat → Nat → Nat} {f : Bool} (hD : DrC s I 5) (hO : DrF s f) {n0 n1 n2 : Nat} (hn0 : I 4 0 = nI n0) (hn1 : I 4 1 = nI n1) (hn2 : I 4 2 = nI n2) (hb0 : n0 ≤ 99) (hb1 : n1 ≤ 99) (hb2 : n2 ≤ 99) : ZP l D zm_X2_acceptWalker 0 (zent 3 [.ref 3, .ref 5]) [] I (zF tw) (fun v J G => v = some (zb (decide (s 116 1 < 4 ∧ n0 < 4 ∧ n1 < s 111 1 ∧ n2 < s 111 1))) ∧ G = zF tw ∧ zDf 5 I J ∧ ((s 116 1 < 4 ∧ n0 < 4 ∧ n1 < s 111 1 ∧ n2 < s 111 1) → DrC (dW s n0 n1 n2) J 5)) := by
  obtain ⟨⟨d1, d2, d3, d4, d5⟩, dS1, dG1, dW1, dR1, dF1⟩ := hO
  show ZP _ _ _ _ [some _, some _, none] _ _ _ _
  refine P_aload_n (pc := 0) dX2_acceptWalker_0 rfl ?_
  refine P_getr (pc := 1) 8 0 dX2_acceptWalker_1 fl_X2_65 sh_5 fr_8_0 F_5_0 ?_
  refine P_geti (pc := 4) 6 0 (x := nI (s 111 1)) dX2_acceptWalker_4 fl_X2_69 sh_6 fi_6_0 (hD.1.1) ?_
  refine P_istore_n (pc := 7) dX2_acceptWalker_7 (by decide) rfl ?_
  refine P_aload_n (pc := 8) dX2_acceptWalker_8 rfl ?_
  refine P_getr (pc := 9) 8 2 dX2_acceptWalker_9 fl_X2_100 sh_5 fr_8_2 F_5_2 ?_
  refine P_geti (pc := 12) 10 4 (x := nI (s 116 1)) dX2_acceptWalker_12 fl_X2_104 sh_31 fi_10_4 (hD.2.2.2.2.1.1) ?_
  refine P_iconst (pc := 15) (x := nI 4) dX2_acceptWalker_15 (by decide) ?_
  refine P_icmp_geN (pc := 16) (tgt := 58) dX2_acceptWalker_16 (by decide) (by omega) (by omega) (fun h16 => ?_) (fun h16 => ?_)
  · refine P_iconst (pc := 58) (x := nI 0) dX2_acceptWalker_58 (by decide) ?_
    refine P_iret (pc := 59) dX2_acceptWalker_59 ?_
    exact ⟨congrArg some (zb_f (by omega)), rfl, zDf.rf, fun z => by omega⟩
  · refine P_aload_n (pc := 19) dX2_acceptWalker_19 rfl ?_
    refine P_getr (pc := 20) 2 0 dX2_acceptWalker_20 fl_X2_9 sh_3 fr_2_0 F_3_0 ?_
    refine P_iconst (pc := 23) (x := nI 0) dX2_acceptWalker_23 (by decide) ?_
    refine P_iald (pc := 24) (0) (x := nI (n0)) dX2_acceptWalker_24 sh_4 rfl (by omega) (by decide) (hn0) ?_
    refine P_iconst (pc := 25) (x := nI 4) dX2_acceptWalker_25 (by decide) ?_
    obtain ⟨_, _, _, ki1, rfl, rfl, rfl⟩ := c_isWithinN (l := l) (D := D) (tw := tw) (I := I) (j := (n0)) (n := 4) (by omega) (by omega)
    refine P_callS (pc := 26) (S := []) (As := [_, _]) ki1 dX2_acceptWalker_26 ok_X11_isWithin ml_X2_77 is_X11_isWithin ⟨by decide, by decide⟩ (zret_b (decide ((n0) < 4))) rfl ⟨rfl, by decide⟩ (Nat.le_of_ble_eq_true rfl) ?_
    refine P_if_eqB (pc := 29) (tgt := 58) dX2_acceptWalker_29 (by decide) (fun h29 => ?_) (fun h29 => ?_)
    · refine P_iconst (pc := 58) (x := nI 0) dX2_acceptWalker_58 (by decide) ?_
      refine P_iret (pc := 59) dX2_acceptWalker_59 ?_
      have g29 := of_decide_eq_false h29
      exact ⟨congrArg some (zb_f (by omega)), rfl, zDf.rf, fun z => by omega⟩
    · refine P_aload_n (pc := 32) dX2_acceptWalker_32 rfl ?_
      refine P_getr (pc := 33) 2 0 dX2_acceptWalker_33 fl_X2_9 sh_3 fr_2_0 F_3_0 ?_
      refine P_iconst (pc := 36) (x := nI 1) dX2_acceptWalker_36 (by decide) ?_
      refine P_iald (pc := 37) (1) (x := nI (n1)) dX2_acceptWalker_37 sh_4 rfl (by omega) (by decide) (hn1) ?_
      refine P_iload_n (pc := 38) dX2_acceptWalker_38 rfl ?_
      obtain ⟨_, _, _, ki2, rfl, rfl, rfl⟩ := c_isWithinN (l := l) (D := D) (tw := tw) (I := I) (j := (n1)) (n := (s 111 1)) (by omega) (by omega)
      refine P_callS (pc := 39) (S := []) (As := [_, _]) ki2 dX2_acceptWalker_39 ok_X11_isWithin ml_X2_77 is_X11_isWithin ⟨by decide, by decide⟩ (zret_b (decide ((n1) < (s 111 1)))) rfl ⟨rfl, by decide⟩ (Nat.le_of_ble_eq_true rfl) ?_
      refine P_if_eqB (pc := 42) (tgt := 58) dX2_acceptWalker_42 (by decide) (fun h42 => ?_) (fun h42 => ?_)
      · refine P_iconst (pc := 58) (x := nI 0) dX2_acceptWalker_58 (by decide) ?_
        refine P_iret (pc := 59) dX2_acceptWalker_59 ?_
        have g29 := of_decide_eq_true h29
        have g42 := of_decide_eq_false h42
        exact ⟨congrArg some (zb_f (by omega)), rfl, zDf.rf, fun z => by omega⟩
      · refine P_aload_n (pc := 45) dX2_acceptWalker_45 rfl ?_
        refine P_getr (pc := 46) 2 0 dX2_acceptWalker_46 fl_X2_9 sh_3 fr_2_0 F_3_0 ?_
        refine P_iconst (pc := 49) (x := nI 2) dX2_acceptWalker_49 (by decide) ?_
        refine P_iald (pc := 50) (2) (x := nI (n2)) dX2_acceptWalker_50 sh_4 rfl (by omega) (by decide) (hn2) ?_
        refine P_iload_n (pc := 51) dX2_acceptWalker_51 rfl ?_
        obtain ⟨_, _, _, ki3, rfl, rfl, rfl⟩ := c_isWithinN (l := l) (D := D) (tw := tw) (I := I) (j := (n2)) (n := (s 111 1)) (by omega) (by omega)
        refine P_callS (pc := 52) (S := []) (As := [_, _]) ki3 dX2_acceptWalker_52 ok_X11_isWithin ml_X2_77 is_X11_isWithin ⟨by decide, by decide⟩ (zret_b (decide ((n2) < (s 111 1)))) rfl ⟨rfl, by decide⟩ (Nat.le_of_ble_eq_true rfl) ?_
        refine P_if_neB (pc := 55) (tgt := 60) dX2_acceptWalker_55 (by decide) (fun h55 => ?_) (fun h55 => ?_)
        · refine P_aload_n (pc := 60) dX2_acceptWalker_60 rfl ?_
          refine P_getr (pc := 61) 8 2 dX2_acceptWalker_61 fl_X2_100 sh_5 fr_8_2 F_5_2 ?_
          refine P_aload_n (pc := 64) dX2_acceptWalker_64 rfl ?_
          refine P_getr (pc := 65) 2 0 dX2_acceptWalker_65 fl_X2_9 sh_3 fr_2_0 F_3_0 ?_
          refine P_iconst (pc := 68) (x := nI 0) dX2_acceptWalker_68 (by decide) ?_
          refine P_iald (pc := 69) (0) (x := nI (n0)) dX2_acceptWalker_69 sh_4 rfl (by omega) (by decide) (hn0) ?_
          refine P_aload_n (pc := 70) dX2_acceptWalker_70 rfl ?_
          refine P_getr (pc := 71) 2 0 dX2_acceptWalker_71 fl_X2_9 sh_3 fr_2_0 F_3_0 ?_
          refine P_iconst (pc := 74) (x := nI 1) dX2_acceptWalker_74 (by decide) ?_
          refine P_iald (pc := 75) (1) (x := nI (n1)) dX2_acceptWalker_75 sh_4 rfl (by omega) (by decide) (hn1) ?_
          refine P_aload_n (pc := 76) dX2_acceptWalker_76 rfl ?_
          refine P_getr (pc := 77) 2 0 dX2_acceptWalker_77 fl_X2_9 sh_3 fr_2_0 F_3_0 ?_
          refine P_iconst (pc := 80) (x := nI 2) dX2_acceptWalker_80 (by decide) ?_
          refine P_iald (pc := 81) (2) (x := nI (n2)) dX2_acceptWalker_81 sh_4 rfl (by omega) (by decide) (hn2) ?_
          have g29 := of_decide_eq_true h29
          have g42 := of_decide_eq_true h42
          have g55 := of_decide_eq_true h55
          obtain ⟨_, K, _, kc, rfl, rfl, hK⟩ := c_wadd_5 (l := l) (D := D) (tw := tw) (I := I) (m := s 116 1) (k := n0) (f := n1) (a := n2) hD.2.2.2.2.1.1 (by omega)
          refine P_callV (pc := 82) (S := []) (As := [_, _, _]) kc dX2_acceptWalker_82 ok_X10_add ml_X2_107 iv_X10_add ⟨by decide, by decide⟩ zret_v rfl ⟨rfl, by decide⟩ sh_31 ⟨by decide, rfl⟩ (Nat.le_of_ble_eq_true rfl) ?_
          refine P_iconst (pc := 85) (x := nI 1) dX2_acceptWalker_85 (by decide) ?_
          refine P_iret (pc := 86) dX2_acceptWalker_86 ?_
          subst hK
          exact ⟨congrArg some (zb_t (by omega)), rfl, fun a ha => zWd_o (by omega), fun _ => hD.W (by omega) (by omega) (by omega) (by omega)⟩
        · refine P_iconst (pc := 58) (x := nI 0) dX2_acceptWalker_58 (by decide) ?_
          refine P_iret (pc := 59) dX2_acceptWalker_59 ?_
          have g29 := of_decide_eq_true h29
          have g42 := of_decide_eq_true h42
          have g55 := of_decide_eq_false h55
          exact ⟨congrArg some (zb_f (by omega)), rfl, zDf.rf, fun z => by omega⟩
set_option maxRecDepth 20000 in
theorem c_acceptStreet_5 {l : Launch} {D : va_G} {tw : Nat} {I : AI} {s : Nat → Nat → Nat} {f : Bool} (hD : DrC s I 5) (hO : DrF s f) {n0 n1 n2 : Nat} (hn0 : I 4 0 = nI n0) (hn1 : I 4 1 = nI n1) (hn2 : I 4 2 = nI n2) (hb0 : n0 ≤ 99) (hb1 : n1 ≤ 99) (hb2 : n2 ≤ 99) : ZP l D zm_X2_acceptStreet 0 (zent 6 [.ref 3, .ref 5]) [] I (zF tw) (fun v J G => v = some (zb (decide (s 112 1 < 12 ∧ n0 < s 111 1 ∧ n1 < s 111 1 ∧ ¬ n0 = n1 ∧ ¬ nrD s (8 * n0 + n1) < 10000 ∧ 1 ≤ n2 ∧ n2 ≤ 20))) ∧ G = zF tw ∧ zDf 5 I J ∧ ((s 112 1 < 12 ∧ n0 < s 111 1 ∧ n1 < s 111 1 ∧ ¬ n0 = n1 ∧ ¬ nrD s (8 * n0 + n1) < 10000 ∧ 1 ≤ n2 ∧ n2 ≤ 20) → DrC (dS s n0 n1 n2) J 5)) := by
  obtain ⟨⟨d1, d2, d3, d4, d5⟩, dS1, dG1, dW1, dR1, dF1⟩ := hO
  show ZP _ _ _ _ [some _, some _, none, none, none, none] _ _ _ _
  refine P_aload_n (pc := 0) dX2_acceptStreet_0 rfl ?_
  refine P_getr (pc := 1) 8 0 dX2_acceptStreet_1 fl_X2_65 sh_5 fr_8_0 F_5_0 ?_
  refine P_astore_n (pc := 4) dX2_acceptStreet_4 (by decide) rfl ?_
  refine P_aload_n (pc := 5) dX2_acceptStreet_5 rfl ?_
  refine P_getr (pc := 6) 2 0 dX2_acceptStreet_6 fl_X2_9 sh_3 fr_2_0 F_3_0 ?_
  refine P_iconst (pc := 9) (x := nI 0) dX2_acceptStreet_9 (by decide) ?_
  refine P_iald (pc := 10) (0) (x := nI (n0)) dX2_acceptStreet_10 sh_4 rfl (by omega) (by decide) (hn0) ?_
  refine P_istore_n (pc := 11) dX2_acceptStreet_11 (by decide) rfl ?_
  refine P_aload_n (pc := 12) dX2_acceptStreet_12 rfl ?_
  refine P_getr (pc := 13) 2 0 dX2_acceptStreet_13 fl_X2_9 sh_3 fr_2_0 F_3_0 ?_
  refine P_iconst (pc := 16) (x := nI 1) dX2_acceptStreet_16 (by decide) ?_
  refine P_iald (pc := 17) (1) (x := nI (n1)) dX2_acceptStreet_17 sh_4 rfl (by omega) (by decide) (hn1) ?_
  refine P_istore (pc := 18) dX2_acceptStreet_18 (by decide) rfl ?_
  refine P_aload_n (pc := 20) dX2_acceptStreet_20 rfl ?_
  refine P_getr (pc := 21) 2 0 dX2_acceptStreet_21 fl_X2_9 sh_3 fr_2_0 F_3_0 ?_
  refine P_iconst (pc := 24) (x := nI 2) dX2_acceptStreet_24 (by decide) ?_
  refine P_iald (pc := 25) (2) (x := nI (n2)) dX2_acceptStreet_25 sh_4 rfl (by omega) (by decide) (hn2) ?_
  refine P_istore (pc := 26) dX2_acceptStreet_26 (by decide) rfl ?_
  refine P_aload_n (pc := 28) dX2_acceptStreet_28 rfl ?_
  refine P_geti (pc := 29) 6 1 (x := nI (s 112 1)) dX2_acceptStreet_29 fl_X2_74 sh_6 fi_6_1 (hD.1.2) ?_
  refine P_bipush (pc := 32) (x := nI 12) dX2_acceptStreet_32 (by decide) ?_
  refine P_icmp_geN (pc := 34) (tgt := 60) dX2_acceptStreet_34 (by decide) (by omega) (by omega) (fun h34 => ?_) (fun h34 => ?_)
  · refine P_iconst (pc := 60) (x := nI 0) dX2_acceptStreet_60 (by decide) ?_
    refine P_iret (pc := 61) dX2_acceptStreet_61 ?_
    exact ⟨congrArg some (zb_f (by omega)), rfl, zDf.rf, fun z => by omega⟩
  · refine P_iload_n (pc := 37) dX2_acceptStreet_37 rfl ?_
    refine P_aload_n (pc := 38) dX2_acceptStreet_38 rfl ?_
    refine P_geti (pc := 39) 6 0 (x := nI (s 111 1)) dX2_acceptStreet_39 fl_X2_69 sh_6 fi_6_0 (hD.1.1) ?_
    obtain ⟨_, _, _, ki1, rfl, rfl, rfl⟩ := c_isWithinN (l := l) (D := D) (tw := tw) (I := I) (j := (n0)) (n := (s 111 1)) (by omega) (by omega)
    refine P_callS (pc := 42) (S := []) (As := [_, _]) ki1 dX2_acceptStreet_42 ok_X11_isWithin ml_X2_77 is_X11_isWithin ⟨by decide, by decide⟩ (zret_b (decide ((n0) < (s 111 1)))) rfl ⟨rfl, by decide⟩ (Nat.le_of_ble_eq_true rfl) ?_
    refine P_if_eqB (pc := 45) (tgt := 60) dX2_acceptStreet_45 (by decide) (fun h45 => ?_) (fun h45 => ?_)
    · refine P_iconst (pc := 60) (x := nI 0) dX2_acceptStreet_60 (by decide) ?_
      refine P_iret (pc := 61) dX2_acceptStreet_61 ?_
      have g45 := of_decide_eq_false h45
      exact ⟨congrArg some (zb_f (by omega)), rfl, zDf.rf, fun z => by omega⟩
    · refine P_iload (pc := 48) dX2_acceptStreet_48 rfl ?_
      refine P_aload_n (pc := 50) dX2_acceptStreet_50 rfl ?_
      refine P_geti (pc := 51) 6 0 (x := nI (s 111 1)) dX2_acceptStreet_51 fl_X2_69 sh_6 fi_6_0 (hD.1.1) ?_
      obtain ⟨_, _, _, ki2, rfl, rfl, rfl⟩ := c_isWithinN (l := l) (D := D) (tw := tw) (I := I) (j := (n1)) (n := (s 111 1)) (by omega) (by omega)
      refine P_callS (pc := 54) (S := []) (As := [_, _]) ki2 dX2_acceptStreet_54 ok_X11_isWithin ml_X2_77 is_X11_isWithin ⟨by decide, by decide⟩ (zret_b (decide ((n1) < (s 111 1)))) rfl ⟨rfl, by decide⟩ (Nat.le_of_ble_eq_true rfl) ?_
      refine P_if_neB (pc := 57) (tgt := 62) dX2_acceptStreet_57 (by decide) (fun h57 => ?_) (fun h57 => ?_)
      · have g45 := of_decide_eq_true h45
        have g57 := of_decide_eq_true h57
        have hpos : 1 ≤ nrD s (8 * n0 + n1) := zNr_pos (fun k hk => (dS1 k hk).2.2.2.1) _
        have hz := zln_pos hpos
        refine P_iload_n (pc := 62) dX2_acceptStreet_62 rfl ?_
        refine P_iload (pc := 63) dX2_acceptStreet_63 rfl ?_
        refine P_icmp_eqN (pc := 65) (tgt := 93) dX2_acceptStreet_65 (by decide) (by omega) (by omega) (fun h65 => ?_) (fun h65 => ?_)
        · refine P_iconst (pc := 93) (x := nI 0) dX2_acceptStreet_93 (by decide) ?_
          refine P_iret (pc := 94) dX2_acceptStreet_94 ?_
          exact ⟨congrArg some (zb_f (by omega)), rfl, zDf.rf, fun z => by omega⟩
        · refine P_aload_n (pc := 68) dX2_acceptStreet_68 rfl ?_
          refine P_getr (pc := 69) 6 4 dX2_acceptStreet_69 fl_X2_81 sh_6 fr_6_4 F_6_4 ?_
          refine P_iload_n (pc := 72) dX2_acceptStreet_72 rfl ?_
          refine P_aald (pc := 73) ((n0)) dX2_acceptStreet_73 sh_9 (by decide) rfl (by omega) (by decide) (Fr_9 _ (by omega)) ?_
          refine P_iload (pc := 74) dX2_acceptStreet_74 rfl ?_
          refine P_iald (pc := 76) ((n1)) (x := nI (zln (nrD s (8 * (n0) + (n1))))) dX2_acceptStreet_76 (shr_10 _ (by omega)) rfl (by omega) (by decide) (hD.2.2.1 _ _ (by omega) (by omega)) ?_
          refine P_if_gt (pc := 77) (tgt := 93) dX2_acceptStreet_77 (by decide) (fun h77 => ?_) (fun h77 => ?_)
          · refine P_iconst (pc := 93) (x := nI 0) dX2_acceptStreet_93 (by decide) ?_
            refine P_iret (pc := 94) dX2_acceptStreet_94 ?_
            have g77 := (nI_pos0 (by omega)).mp h77
            have g78 := hz.1.mp g77
            exact ⟨congrArg some (zb_f (by omega)), rfl, zDf.rf, fun z => by omega⟩
          · refine P_iload (pc := 80) dX2_acceptStreet_80 rfl ?_
            refine P_iconst (pc := 82) (x := nI 1) dX2_acceptStreet_82 (by decide) ?_
            refine P_icmp_ltN (pc := 83) (tgt := 93) dX2_acceptStreet_83 (by decide) (by omega) (by omega) (fun h83 => ?_) (fun h83 => ?_)
            · refine P_iconst (pc := 93) (x := nI 0) dX2_acceptStreet_93 (by decide) ?_
              refine P_iret (pc := 94) dX2_acceptStreet_94 ?_
              exact ⟨congrArg some (zb_f (by omega)), rfl, zDf.rf, fun z => by omega⟩
            · refine P_iload (pc := 86) dX2_acceptStreet_86 rfl ?_
              refine P_bipush (pc := 88) (x := nI 20) dX2_acceptStreet_88 (by decide) ?_
              refine P_icmp_leN (pc := 90) (tgt := 95) dX2_acceptStreet_90 (by decide) (by omega) (by omega) (fun h90 => ?_) (fun h90 => ?_)
              · refine P_aload_n (pc := 95) dX2_acceptStreet_95 rfl ?_
                refine P_iload_n (pc := 96) dX2_acceptStreet_96 rfl ?_
                refine P_iload (pc := 97) dX2_acceptStreet_97 rfl ?_
                refine P_iload (pc := 99) dX2_acceptStreet_99 rfl ?_
                obtain ⟨_, K, _, kc, rfl, rfl, hK⟩ := c_stadd_5 (l := l) (D := D) (tw := tw) (I := I) (m := s 112 1) (a := n0) (b := n1) (x := n2) hD.1.2 (by omega) (by omega) (by omega)
                refine P_callV (pc := 101) (S := []) (As := [_, _, _]) kc dX2_acceptStreet_101 ok_X6_add ml_X2_85 iv_X6_add ⟨by decide, by decide⟩ zret_v rfl ⟨rfl, by decide⟩ sh_6 ⟨by decide, rfl⟩ (Nat.le_of_ble_eq_true rfl) ?_
                refine P_iconst (pc := 104) (x := nI 1) dX2_acceptStreet_104 (by decide) ?_
                refine P_iret (pc := 105) dX2_acceptStreet_105 ?_
                have g77 : ¬ nrD s (8 * n0 + n1) < 10000 := fun z => h77 ((nI_pos0 (by omega)).mpr (hz.1.mpr z))
                subst hK
                exact ⟨congrArg some (zb_t (by omega)), rfl, fun a ha => by unfold zSd; rw [zu_o _ _ (by omega), zu_o _ _ (by omega), zu_o _ _ (by omega), zu_o _ _ (by omega), zu_o _ _ (by omega)], fun _ => hD.S (by omega) (by omega) (by omega) (by omega)⟩
              · refine P_iconst (pc := 93) (x := nI 0) dX2_acceptStreet_93 (by decide) ?_
                refine P_iret (pc := 94) dX2_acceptStreet_94 ?_
                exact ⟨congrArg some (zb_f (by omega)), rfl, zDf.rf, fun z => by omega⟩
      · refine P_iconst (pc := 60) (x := nI 0) dX2_acceptStreet_60 (by decide) ?_
        refine P_iret (pc := 61) dX2_acceptStreet_61 ?_
        have g45 := of_decide_eq_true h45
        have g57 := of_decide_eq_false h57
        exact ⟨congrArg some (zb_f (by omega)), rfl, zDf.rf, fun z => by omega⟩
set_option maxRecDepth 20000 in
theorem c_acceptCorners_36 {l : Launch} {D : va_G} {tw : Nat} {I : AI} {s : Nat → Nat → Nat} {f : Bool} (hD : DrC s I 36) (hO : DrF s f) {n0 : Nat} (hn0 : I 4 0 = nI n0) (hb0 : n0 ≤ 99) : ZP l D zm_X2_acceptCorners 0 (zent 2 [.ref 3, .ref 36]) [] I (zF tw) (fun v J G => v = some (zb (decide (1 ≤ n0 ∧ n0 ≤ 8))) ∧ G = zF tw ∧ zDf 36 I J ∧ ((1 ≤ n0 ∧ n0 ≤ 8) → DrC (dC s n0) J 36)) := by
  obtain ⟨⟨d1, d2, d3, d4, d5⟩, dS1, dG1, dW1, dR1, dF1⟩ := hO
  show ZP _ _ _ _ [some _, some _] _ _ _ _
  refine P_aload_n (pc := 0) dX2_acceptCorners_0 rfl ?_
  refine P_getr (pc := 1) 2 0 dX2_acceptCorners_1 fl_X2_9 sh_3 fr_2_0 F_3_0 ?_
  refine P_iconst (pc := 4) (x := nI 0) dX2_acceptCorners_4 (by decide) ?_
  refine P_iald (pc := 5) (0) (x := nI (n0)) dX2_acceptCorners_5 sh_4 rfl (by omega) (by decide) (hn0) ?_
  refine P_iconst (pc := 6) (x := nI 1) dX2_acceptCorners_6 (by decide) ?_
  refine P_icmp_ltN (pc := 7) (tgt := 21) dX2_acceptCorners_7 (by decide) (by omega) (by omega) (fun h7 => ?_) (fun h7 => ?_)
  · refine P_iconst (pc := 21) (x := nI 0) dX2_acceptCorners_21 (by decide) ?_
    refine P_iret (pc := 22) dX2_acceptCorners_22 ?_
    exact ⟨congrArg some (zb_f (by omega)), rfl, zDf.rf, fun z => by omega⟩
  · refine P_aload_n (pc := 10) dX2_acceptCorners_10 rfl ?_
    refine P_getr (pc := 11) 2 0 dX2_acceptCorners_11 fl_X2_9 sh_3 fr_2_0 F_3_0 ?_
    refine P_iconst (pc := 14) (x := nI 0) dX2_acceptCorners_14 (by decide) ?_
    refine P_iald (pc := 15) (0) (x := nI (n0)) dX2_acceptCorners_15 sh_4 rfl (by omega) (by decide) (hn0) ?_
    refine P_bipush (pc := 16) (x := nI 8) dX2_acceptCorners_16 (by decide) ?_
    refine P_icmp_leN (pc := 18) (tgt := 23) dX2_acceptCorners_18 (by decide) (by omega) (by omega) (fun h18 => ?_) (fun h18 => ?_)
    · refine P_aload_n (pc := 23) dX2_acceptCorners_23 rfl ?_
      refine P_getr (pc := 24) 8 0 dX2_acceptCorners_24 fl_X2_65 sh_36 fr_8_0 F_36_0 ?_
      refine P_aload_n (pc := 27) dX2_acceptCorners_27 rfl ?_
      refine P_getr (pc := 28) 2 0 dX2_acceptCorners_28 fl_X2_9 sh_3 fr_2_0 F_3_0 ?_
      refine P_iconst (pc := 31) (x := nI 0) dX2_acceptCorners_31 (by decide) ?_
      refine P_iald (pc := 32) (0) (x := nI (n0)) dX2_acceptCorners_32 sh_4 rfl (by omega) (by decide) (hn0) ?_
      refine P_puti (pc := 33) 6 0 dX2_acceptCorners_33 fl_X2_69 sh_37 fp_6_0 rfl rfl ?_
      refine P_iconst (pc := 36) (x := nI 1) dX2_acceptCorners_36 (by decide) ?_
      refine P_iret (pc := 37) dX2_acceptCorners_37 ?_
      exact ⟨congrArg some (zb_t (by omega)), rfl, zDf.rf.u (by decide), fun _ => hD.C⟩
    · refine P_iconst (pc := 21) (x := nI 0) dX2_acceptCorners_21 (by decide) ?_
      refine P_iret (pc := 22) dX2_acceptCorners_22 ?_
      exact ⟨congrArg some (zb_f (by omega)), rfl, zDf.rf, fun z => by omega⟩
set_option maxRecDepth 20000 in
theorem c_acceptRates_36 {l : Launch} {D : va_G} {tw : Nat} {I : AI} {s : Nat → Nat → Nat} {f : Bool} (hD : DrC s I 36) (hO : DrF s f) {n0 n1 n2 : Nat} (hn0 : I 4 0 = nI n0) (hn1 : I 4 1 = nI n1) (hn2 : I 4 2 = nI n2) (hb0 : n0 ≤ 99) (hb1 : n1 ≤ 99) (hb2 : n2 ≤ 99) : ZP l D zm_X2_acceptRates 0 (zent 2 [.ref 3, .ref 36]) [] I (zF tw) (fun v J G => v = some (zb (decide (n0 < 10 ∧ n1 < 10 ∧ n2 < 10))) ∧ G = zF tw ∧ zDf 36 I J ∧ ((n0 < 10 ∧ n1 < 10 ∧ n2 < 10) → DrC (dR s n0 n1 n2) J 36)) := by
  obtain ⟨⟨d1, d2, d3, d4, d5⟩, dS1, dG1, dW1, dR1, dF1⟩ := hO
  show ZP _ _ _ _ [some _, some _] _ _ _ _
  refine P_aload_n (pc := 0) dX2_acceptRates_0 rfl ?_
  refine P_getr (pc := 1) 2 0 dX2_acceptRates_1 fl_X2_9 sh_3 fr_2_0 F_3_0 ?_
  refine P_iconst (pc := 4) (x := nI 0) dX2_acceptRates_4 (by decide) ?_
  refine P_iald (pc := 5) (0) (x := nI (n0)) dX2_acceptRates_5 sh_4 rfl (by omega) (by decide) (hn0) ?_
  refine P_bipush (pc := 6) (x := nI 10) dX2_acceptRates_6 (by decide) ?_
  obtain ⟨_, _, _, ki1, rfl, rfl, rfl⟩ := c_isWithinN (l := l) (D := D) (tw := tw) (I := I) (j := (n0)) (n := 10) (by omega) (by omega)
  refine P_callS (pc := 8) (S := []) (As := [_, _]) ki1 dX2_acceptRates_8 ok_X11_isWithin ml_X2_77 is_X11_isWithin ⟨by decide, by decide⟩ (zret_b (decide ((n0) < 10))) rfl ⟨rfl, by decide⟩ (Nat.le_of_ble_eq_true rfl) ?_
  refine P_if_eqB (pc := 11) (tgt := 42) dX2_acceptRates_11 (by decide) (fun h11 => ?_) (fun h11 => ?_)
  · refine P_iconst (pc := 42) (x := nI 0) dX2_acceptRates_42 (by decide) ?_
    refine P_iret (pc := 43) dX2_acceptRates_43 ?_
    have g11 := of_decide_eq_false h11
    exact ⟨congrArg some (zb_f (by omega)), rfl, zDf.rf, fun z => by omega⟩
  · refine P_aload_n (pc := 14) dX2_acceptRates_14 rfl ?_
    refine P_getr (pc := 15) 2 0 dX2_acceptRates_15 fl_X2_9 sh_3 fr_2_0 F_3_0 ?_
    refine P_iconst (pc := 18) (x := nI 1) dX2_acceptRates_18 (by decide) ?_
    refine P_iald (pc := 19) (1) (x := nI (n1)) dX2_acceptRates_19 sh_4 rfl (by omega) (by decide) (hn1) ?_
    refine P_bipush (pc := 20) (x := nI 10) dX2_acceptRates_20 (by decide) ?_
    obtain ⟨_, _, _, ki2, rfl, rfl, rfl⟩ := c_isWithinN (l := l) (D := D) (tw := tw) (I := I) (j := (n1)) (n := 10) (by omega) (by omega)
    refine P_callS (pc := 22) (S := []) (As := [_, _]) ki2 dX2_acceptRates_22 ok_X11_isWithin ml_X2_77 is_X11_isWithin ⟨by decide, by decide⟩ (zret_b (decide ((n1) < 10))) rfl ⟨rfl, by decide⟩ (Nat.le_of_ble_eq_true rfl) ?_
    refine P_if_eqB (pc := 25) (tgt := 42) dX2_acceptRates_25 (by decide) (fun h25 => ?_) (fun h25 => ?_)
    · refine P_iconst (pc := 42) (x := nI 0) dX2_acceptRates_42 (by decide) ?_
      refine P_iret (pc := 43) dX2_acceptRates_43 ?_
      have g11 := of_decide_eq_true h11
      have g25 := of_decide_eq_false h25
      exact ⟨congrArg some (zb_f (by omega)), rfl, zDf.rf, fun z => by omega⟩
    · refine P_aload_n (pc := 28) dX2_acceptRates_28 rfl ?_
      refine P_getr (pc := 29) 2 0 dX2_acceptRates_29 fl_X2_9 sh_3 fr_2_0 F_3_0 ?_
      refine P_iconst (pc := 32) (x := nI 2) dX2_acceptRates_32 (by decide) ?_
      refine P_iald (pc := 33) (2) (x := nI (n2)) dX2_acceptRates_33 sh_4 rfl (by omega) (by decide) (hn2) ?_
      refine P_bipush (pc := 34) (x := nI 10) dX2_acceptRates_34 (by decide) ?_
      obtain ⟨_, _, _, ki3, rfl, rfl, rfl⟩ := c_isWithinN (l := l) (D := D) (tw := tw) (I := I) (j := (n2)) (n := 10) (by omega) (by omega)
      refine P_callS (pc := 36) (S := []) (As := [_, _]) ki3 dX2_acceptRates_36 ok_X11_isWithin ml_X2_77 is_X11_isWithin ⟨by decide, by decide⟩ (zret_b (decide ((n2) < 10))) rfl ⟨rfl, by decide⟩ (Nat.le_of_ble_eq_true rfl) ?_
      refine P_if_neB (pc := 39) (tgt := 44) dX2_acceptRates_39 (by decide) (fun h39 => ?_) (fun h39 => ?_)
      · refine P_aload_n (pc := 44) dX2_acceptRates_44 rfl ?_
        refine P_aload_n (pc := 45) dX2_acceptRates_45 rfl ?_
        refine P_getr (pc := 46) 2 0 dX2_acceptRates_46 fl_X2_9 sh_3 fr_2_0 F_3_0 ?_
        refine P_iconst (pc := 49) (x := nI 0) dX2_acceptRates_49 (by decide) ?_
        refine P_iald (pc := 50) (0) (x := nI (n0)) dX2_acceptRates_50 sh_4 rfl (by omega) (by decide) (hn0) ?_
        refine P_puti (pc := 51) 8 3 dX2_acceptRates_51 fl_X2_108 sh_36 fp_8_3 rfl rfl ?_
        refine P_aload_n (pc := 54) dX2_acceptRates_54 rfl ?_
        refine P_aload_n (pc := 55) dX2_acceptRates_55 rfl ?_
        refine P_getr (pc := 56) 2 0 dX2_acceptRates_56 fl_X2_9 sh_3 fr_2_0 F_3_0 ?_
        refine P_iconst (pc := 59) (x := nI 1) dX2_acceptRates_59 (by decide) ?_
        refine P_iald (pc := 60) (1) (x := nI (n1)) dX2_acceptRates_60 sh_4 rfl (by omega) (by decide) (hn1) ?_
        refine P_puti (pc := 61) 8 4 dX2_acceptRates_61 fl_X2_111 sh_36 fp_8_4 rfl rfl ?_
        refine P_aload_n (pc := 64) dX2_acceptRates_64 rfl ?_
        refine P_aload_n (pc := 65) dX2_acceptRates_65 rfl ?_
        refine P_getr (pc := 66) 2 0 dX2_acceptRates_66 fl_X2_9 sh_3 fr_2_0 F_3_0 ?_
        refine P_iconst (pc := 69) (x := nI 2) dX2_acceptRates_69 (by decide) ?_
        refine P_iald (pc := 70) (2) (x := nI (n2)) dX2_acceptRates_70 sh_4 rfl (by omega) (by decide) (hn2) ?_
        refine P_puti (pc := 71) 8 5 dX2_acceptRates_71 fl_X2_114 sh_36 fp_8_5 rfl rfl ?_
        refine P_iconst (pc := 74) (x := nI 1) dX2_acceptRates_74 (by decide) ?_
        refine P_iret (pc := 75) dX2_acceptRates_75 ?_
        have g11 := of_decide_eq_true h11
        have g25 := of_decide_eq_true h25
        have g39 := of_decide_eq_true h39
        exact ⟨congrArg some (zb_t (by omega)), rfl, ((zDf.rf.u (by decide)).u (by decide)).u (by decide), fun _ => hD.R⟩
      · refine P_iconst (pc := 42) (x := nI 0) dX2_acceptRates_42 (by decide) ?_
        refine P_iret (pc := 43) dX2_acceptRates_43 ?_
        have g11 := of_decide_eq_true h11
        have g25 := of_decide_eq_true h25
        have g39 := of_decide_eq_false h39
        exact ⟨congrArg some (zb_f (by omega)), rfl, zDf.rf, fun z => by omega⟩
set_option maxRecDepth 20000 in
theorem c_acceptSign_36 {l : Launch} {D : va_G} {tw : Nat} {I : AI} {s : Nat → Nat → Nat} {f : Bool} (hD : DrC s I 36) (hO : DrF s f) {n0 n1 n2 : Nat} (hn0 : I 4 0 = nI n0) (hn1 : I 4 1 = nI n1) (hn2 : I 4 2 = nI n2) (hb0 : n0 ≤ 99) (hb1 : n1 ≤ 99) (hb2 : n2 ≤ 99) : ZP l D zm_X2_acceptSign 0 (zent 3 [.ref 3, .ref 36]) [] I (zF tw) (fun v J G => v = some (zb (decide (s 109 13 < 8 ∧ n0 < s 111 1 ∧ n1 < s 111 1 ∧ n2 < s 111 1))) ∧ G = zF tw ∧ zDf 36 I J ∧ ((s 109 13 < 8 ∧ n0 < s 111 1 ∧ n1 < s 111 1 ∧ n2 < s 111 1) → DrC (dG s n0 n1 n2) J 36)) := by
  obtain ⟨⟨d1, d2, d3, d4, d5⟩, dS1, dG1, dW1, dR1, dF1⟩ := hO
  show ZP _ _ _ _ [some _, some _, none] _ _ _ _
  refine P_aload_n (pc := 0) dX2_acceptSign_0 rfl ?_
  refine P_getr (pc := 1) 8 0 dX2_acceptSign_1 fl_X2_65 sh_36 fr_8_0 F_36_0 ?_
  refine P_geti (pc := 4) 6 0 (x := nI (s 111 1)) dX2_acceptSign_4 fl_X2_69 sh_37 fi_6_0 (hD.1.1) ?_
  refine P_istore_n (pc := 7) dX2_acceptSign_7 (by decide) rfl ?_
  refine P_aload_n (pc := 8) dX2_acceptSign_8 rfl ?_
  refine P_getr (pc := 9) 8 1 dX2_acceptSign_9 fl_X2_89 sh_36 fr_8_1 F_36_1 ?_
  refine P_geti (pc := 12) 5 3 (x := nI (s 109 13)) dX2_acceptSign_12 fl_X2_93 sh_58 fi_5_3 (hD.2.2.2.1.1) ?_
  refine P_bipush (pc := 15) (x := nI 8) dX2_acceptSign_15 (by decide) ?_
  refine P_icmp_geN (pc := 17) (tgt := 59) dX2_acceptSign_17 (by decide) (by omega) (by omega) (fun h17 => ?_) (fun h17 => ?_)
  · refine P_iconst (pc := 59) (x := nI 0) dX2_acceptSign_59 (by decide) ?_
    refine P_iret (pc := 60) dX2_acceptSign_60 ?_
    exact ⟨congrArg some (zb_f (by omega)), rfl, zDf.rf, fun z => by omega⟩
  · refine P_aload_n (pc := 20) dX2_acceptSign_20 rfl ?_
    refine P_getr (pc := 21) 2 0 dX2_acceptSign_21 fl_X2_9 sh_3 fr_2_0 F_3_0 ?_
    refine P_iconst (pc := 24) (x := nI 0) dX2_acceptSign_24 (by decide) ?_
    refine P_iald (pc := 25) (0) (x := nI (n0)) dX2_acceptSign_25 sh_4 rfl (by omega) (by decide) (hn0) ?_
    refine P_iload_n (pc := 26) dX2_acceptSign_26 rfl ?_
    obtain ⟨_, _, _, ki1, rfl, rfl, rfl⟩ := c_isWithinN (l := l) (D := D) (tw := tw) (I := I) (j := (n0)) (n := (s 111 1)) (by omega) (by omega)
    refine P_callS (pc := 27) (S := []) (As := [_, _]) ki1 dX2_acceptSign_27 ok_X11_isWithin ml_X2_77 is_X11_isWithin ⟨by decide, by decide⟩ (zret_b (decide ((n0) < (s 111 1)))) rfl ⟨rfl, by decide⟩ (Nat.le_of_ble_eq_true rfl) ?_
    refine P_if_eqB (pc := 30) (tgt := 59) dX2_acceptSign_30 (by decide) (fun h30 => ?_) (fun h30 => ?_)
    · refine P_iconst (pc := 59) (x := nI 0) dX2_acceptSign_59 (by decide) ?_
      refine P_iret (pc := 60) dX2_acceptSign_60 ?_
      have g30 := of_decide_eq_false h30
      exact ⟨congrArg some (zb_f (by omega)), rfl, zDf.rf, fun z => by omega⟩
    · refine P_aload_n (pc := 33) dX2_acceptSign_33 rfl ?_
      refine P_getr (pc := 34) 2 0 dX2_acceptSign_34 fl_X2_9 sh_3 fr_2_0 F_3_0 ?_
      refine P_iconst (pc := 37) (x := nI 1) dX2_acceptSign_37 (by decide) ?_
      refine P_iald (pc := 38) (1) (x := nI (n1)) dX2_acceptSign_38 sh_4 rfl (by omega) (by decide) (hn1) ?_
      refine P_iload_n (pc := 39) dX2_acceptSign_39 rfl ?_
      obtain ⟨_, _, _, ki2, rfl, rfl, rfl⟩ := c_isWithinN (l := l) (D := D) (tw := tw) (I := I) (j := (n1)) (n := (s 111 1)) (by omega) (by omega)
      refine P_callS (pc := 40) (S := []) (As := [_, _]) ki2 dX2_acceptSign_40 ok_X11_isWithin ml_X2_77 is_X11_isWithin ⟨by decide, by decide⟩ (zret_b (decide ((n1) < (s 111 1)))) rfl ⟨rfl, by decide⟩ (Nat.le_of_ble_eq_true rfl) ?_
      refine P_if_eqB (pc := 43) (tgt := 59) dX2_acceptSign_43 (by decide) (fun h43 => ?_) (fun h43 => ?_)
      · refine P_iconst (pc := 59) (x := nI 0) dX2_acceptSign_59 (by decide) ?_
        refine P_iret (pc := 60) dX2_acceptSign_60 ?_
        have g30 := of_decide_eq_true h30
        have g43 := of_decide_eq_false h43
        exact ⟨congrArg some (zb_f (by omega)), rfl, zDf.rf, fun z => by omega⟩
      · refine P_aload_n (pc := 46) dX2_acceptSign_46 rfl ?_
        refine P_getr (pc := 47) 2 0 dX2_acceptSign_47 fl_X2_9 sh_3 fr_2_0 F_3_0 ?_
        refine P_iconst (pc := 50) (x := nI 2) dX2_acceptSign_50 (by decide) ?_
        refine P_iald (pc := 51) (2) (x := nI (n2)) dX2_acceptSign_51 sh_4 rfl (by omega) (by decide) (hn2) ?_
        refine P_iload_n (pc := 52) dX2_acceptSign_52 rfl ?_
        obtain ⟨_, _, _, ki3, rfl, rfl, rfl⟩ := c_isWithinN (l := l) (D := D) (tw := tw) (I := I) (j := (n2)) (n := (s 111 1)) (by omega) (by omega)
        refine P_callS (pc := 53) (S := []) (As := [_, _]) ki3 dX2_acceptSign_53 ok_X11_isWithin ml_X2_77 is_X11_isWithin ⟨by decide, by decide⟩ (zret_b (decide ((n2) < (s 111 1)))) rfl ⟨rfl, by decide⟩ (Nat.le_of_ble_eq_true rfl) ?_
        refine P_if_neB (pc := 56) (tgt := 61) dX2_acceptSign_56 (by decide) (fun h56 => ?_) (fun h56 => ?_)
        · refine P_aload_n (pc := 61) dX2_acceptSign_61 rfl ?_
          refine P_getr (pc := 62) 8 1 dX2_acceptSign_62 fl_X2_89 sh_36 fr_8_1 F_36_1 ?_
          refine P_aload_n (pc := 65) dX2_acceptSign_65 rfl ?_
          refine P_getr (pc := 66) 8 1 dX2_acceptSign_66 fl_X2_89 sh_36 fr_8_1 F_36_1 ?_
          refine P_geti (pc := 69) 5 3 (x := nI (s 109 13)) dX2_acceptSign_69 fl_X2_93 sh_58 fi_5_3 (hD.2.2.2.1.1) ?_
          refine P_aload_n (pc := 72) dX2_acceptSign_72 rfl ?_
          refine P_getr (pc := 73) 2 0 dX2_acceptSign_73 fl_X2_9 sh_3 fr_2_0 F_3_0 ?_
          refine P_iconst (pc := 76) (x := nI 0) dX2_acceptSign_76 (by decide) ?_
          refine P_iald (pc := 77) (0) (x := nI (n0)) dX2_acceptSign_77 sh_4 rfl (by omega) (by decide) (hn0) ?_
          refine P_aload_n (pc := 78) dX2_acceptSign_78 rfl ?_
          refine P_getr (pc := 79) 2 0 dX2_acceptSign_79 fl_X2_9 sh_3 fr_2_0 F_3_0 ?_
          refine P_iconst (pc := 82) (x := nI 1) dX2_acceptSign_82 (by decide) ?_
          refine P_iald (pc := 83) (1) (x := nI (n1)) dX2_acceptSign_83 sh_4 rfl (by omega) (by decide) (hn1) ?_
          refine P_aload_n (pc := 84) dX2_acceptSign_84 rfl ?_
          refine P_getr (pc := 85) 2 0 dX2_acceptSign_85 fl_X2_9 sh_3 fr_2_0 F_3_0 ?_
          refine P_iconst (pc := 88) (x := nI 2) dX2_acceptSign_88 (by decide) ?_
          refine P_iald (pc := 89) (2) (x := nI (n2)) dX2_acceptSign_89 sh_4 rfl (by omega) (by decide) (hn2) ?_
          have g30 := of_decide_eq_true h30
          have g43 := of_decide_eq_true h43
          have g56 := of_decide_eq_true h56
          obtain ⟨_, K, _, kc, rfl, rfl, hK1, hK2⟩ := c_insert_58 (l := l) (D := D) (tw := tw) (I := I) hD.2.2.2.1 (k := s 109 13) (c := n0) (a := n1) (n := n2) (Nat.le_refl _) (by omega) (by omega) (by omega) (by omega)
          refine P_callV (pc := 90) (S := []) (As := [_, _, _, _]) kc dX2_acceptSign_90 ok_X5_insert ml_X2_96 iv_X5_insert ⟨by decide, by decide⟩ zret_v rfl ⟨rfl, by decide⟩ sh_58 ⟨by decide, rfl⟩ (Nat.le_of_ble_eq_true rfl) ?_
          refine P_iconst (pc := 93) (x := nI 1) dX2_acceptSign_93 (by decide) ?_
          refine P_iret (pc := 94) dX2_acceptSign_94 ?_
          exact ⟨congrArg some (zb_t (by omega)), rfl, hK1.df (by decide), fun _ => hD.G hK1 hK2⟩
        · refine P_iconst (pc := 59) (x := nI 0) dX2_acceptSign_59 (by decide) ?_
          refine P_iret (pc := 60) dX2_acceptSign_60 ?_
          have g30 := of_decide_eq_true h30
          have g43 := of_decide_eq_true h43
          have g56 := of_decide_eq_false h56
          exact ⟨congrArg some (zb_f (by omega)), rfl, zDf.rf, fun z => by omega⟩
set_option maxRecDepth 20000 in
theorem c_acceptWalker_36 {l : Launch} {D : va_G} {tw : Nat} {I : AI} {s : Nat → Nat → Nat} {f : Bool} (hD : DrC s I 36) (hO : DrF s f) {n0 n1 n2 : Nat} (hn0 : I 4 0 = nI n0) (hn1 : I 4 1 = nI n1) (hn2 : I 4 2 = nI n2) (hb0 : n0 ≤ 99) (hb1 : n1 ≤ 99) (hb2 : n2 ≤ 99) : ZP l D zm_X2_acceptWalker 0 (zent 3 [.ref 3, .ref 36]) [] I (zF tw) (fun v J G => v = some (zb (decide (s 116 1 < 4 ∧ n0 < 4 ∧ n1 < s 111 1 ∧ n2 < s 111 1))) ∧ G = zF tw ∧ zDf 36 I J ∧ ((s 116 1 < 4 ∧ n0 < 4 ∧ n1 < s 111 1 ∧ n2 < s 111 1) → DrC (dW s n0 n1 n2) J 36)) := by
  obtain ⟨⟨d1, d2, d3, d4, d5⟩, dS1, dG1, dW1, dR1, dF1⟩ := hO
  show ZP _ _ _ _ [some _, some _, none] _ _ _ _
  refine P_aload_n (pc := 0) dX2_acceptWalker_0 rfl ?_
  refine P_getr (pc := 1) 8 0 dX2_acceptWalker_1 fl_X2_65 sh_36 fr_8_0 F_36_0 ?_
  refine P_geti (pc := 4) 6 0 (x := nI (s 111 1)) dX2_acceptWalker_4 fl_X2_69 sh_37 fi_6_0 (hD.1.1) ?_
  refine P_istore_n (pc := 7) dX2_acceptWalker_7 (by decide) rfl ?_
  refine P_aload_n (pc := 8) dX2_acceptWalker_8 rfl ?_
  refine P_getr (pc := 9) 8 2 dX2_acceptWalker_9 fl_X2_100 sh_36 fr_8_2 F_36_2 ?_
  refine P_geti (pc := 12) 10 4 (x := nI (s 116 1)) dX2_acceptWalker_12 fl_X2_104 sh_62 fi_10_4 (hD.2.2.2.2.1.1) ?_
  refine P_iconst (pc := 15) (x := nI 4) dX2_acceptWalker_15 (by decide) ?_
  refine P_icmp_geN (pc := 16) (tgt := 58) dX2_acceptWalker_16 (by decide) (by omega) (by omega) (fun h16 => ?_) (fun h16 => ?_)
  · refine P_iconst (pc := 58) (x := nI 0) dX2_acceptWalker_58 (by decide) ?_
    refine P_iret (pc := 59) dX2_acceptWalker_59 ?_
    exact ⟨congrArg some (zb_f (by omega)), rfl, zDf.rf, fun z => by omega⟩
  · refine P_aload_n (pc := 19) dX2_acceptWalker_19 rfl ?_
    refine P_getr (pc := 20) 2 0 dX2_acceptWalker_20 fl_X2_9 sh_3 fr_2_0 F_3_0 ?_
    refine P_iconst (pc := 23) (x := nI 0) dX2_acceptWalker_23 (by decide) ?_
    refine P_iald (pc := 24) (0) (x := nI (n0)) dX2_acceptWalker_24 sh_4 rfl (by omega) (by decide) (hn0) ?_
    refine P_iconst (pc := 25) (x := nI 4) dX2_acceptWalker_25 (by decide) ?_
    obtain ⟨_, _, _, ki1, rfl, rfl, rfl⟩ := c_isWithinN (l := l) (D := D) (tw := tw) (I := I) (j := (n0)) (n := 4) (by omega) (by omega)
    refine P_callS (pc := 26) (S := []) (As := [_, _]) ki1 dX2_acceptWalker_26 ok_X11_isWithin ml_X2_77 is_X11_isWithin ⟨by decide, by decide⟩ (zret_b (decide ((n0) < 4))) rfl ⟨rfl, by decide⟩ (Nat.le_of_ble_eq_true rfl) ?_
    refine P_if_eqB (pc := 29) (tgt := 58) dX2_acceptWalker_29 (by decide) (fun h29 => ?_) (fun h29 => ?_)
    · refine P_iconst (pc := 58) (x := nI 0) dX2_acceptWalker_58 (by decide) ?_
      refine P_iret (pc := 59) dX2_acceptWalker_59 ?_
      have g29 := of_decide_eq_false h29
      exact ⟨congrArg some (zb_f (by omega)), rfl, zDf.rf, fun z => by omega⟩
    · refine P_aload_n (pc := 32) dX2_acceptWalker_32 rfl ?_
      refine P_getr (pc := 33) 2 0 dX2_acceptWalker_33 fl_X2_9 sh_3 fr_2_0 F_3_0 ?_
      refine P_iconst (pc := 36) (x := nI 1) dX2_acceptWalker_36 (by decide) ?_
      refine P_iald (pc := 37) (1) (x := nI (n1)) dX2_acceptWalker_37 sh_4 rfl (by omega) (by decide) (hn1) ?_
      refine P_iload_n (pc := 38) dX2_acceptWalker_38 rfl ?_
      obtain ⟨_, _, _, ki2, rfl, rfl, rfl⟩ := c_isWithinN (l := l) (D := D) (tw := tw) (I := I) (j := (n1)) (n := (s 111 1)) (by omega) (by omega)
      refine P_callS (pc := 39) (S := []) (As := [_, _]) ki2 dX2_acceptWalker_39 ok_X11_isWithin ml_X2_77 is_X11_isWithin ⟨by decide, by decide⟩ (zret_b (decide ((n1) < (s 111 1)))) rfl ⟨rfl, by decide⟩ (Nat.le_of_ble_eq_true rfl) ?_
      refine P_if_eqB (pc := 42) (tgt := 58) dX2_acceptWalker_42 (by decide) (fun h42 => ?_) (fun h42 => ?_)
      · refine P_iconst (pc := 58) (x := nI 0) dX2_acceptWalker_58 (by decide) ?_
        refine P_iret (pc := 59) dX2_acceptWalker_59 ?_
        have g29 := of_decide_eq_true h29
        have g42 := of_decide_eq_false h42
        exact ⟨congrArg some (zb_f (by omega)), rfl, zDf.rf, fun z => by omega⟩
      · refine P_aload_n (pc := 45) dX2_acceptWalker_45 rfl ?_
        refine P_getr (pc := 46) 2 0 dX2_acceptWalker_46 fl_X2_9 sh_3 fr_2_0 F_3_0 ?_
        refine P_iconst (pc := 49) (x := nI 2) dX2_acceptWalker_49 (by decide) ?_
        refine P_iald (pc := 50) (2) (x := nI (n2)) dX2_acceptWalker_50 sh_4 rfl (by omega) (by decide) (hn2) ?_
        refine P_iload_n (pc := 51) dX2_acceptWalker_51 rfl ?_
        obtain ⟨_, _, _, ki3, rfl, rfl, rfl⟩ := c_isWithinN (l := l) (D := D) (tw := tw) (I := I) (j := (n2)) (n := (s 111 1)) (by omega) (by omega)
        refine P_callS (pc := 52) (S := []) (As := [_, _]) ki3 dX2_acceptWalker_52 ok_X11_isWithin ml_X2_77 is_X11_isWithin ⟨by decide, by decide⟩ (zret_b (decide ((n2) < (s 111 1)))) rfl ⟨rfl, by decide⟩ (Nat.le_of_ble_eq_true rfl) ?_
        refine P_if_neB (pc := 55) (tgt := 60) dX2_acceptWalker_55 (by decide) (fun h55 => ?_) (fun h55 => ?_)
        · refine P_aload_n (pc := 60) dX2_acceptWalker_60 rfl ?_
          refine P_getr (pc := 61) 8 2 dX2_acceptWalker_61 fl_X2_100 sh_36 fr_8_2 F_36_2 ?_
          refine P_aload_n (pc := 64) dX2_acceptWalker_64 rfl ?_
          refine P_getr (pc := 65) 2 0 dX2_acceptWalker_65 fl_X2_9 sh_3 fr_2_0 F_3_0 ?_
          refine P_iconst (pc := 68) (x := nI 0) dX2_acceptWalker_68 (by decide) ?_
          refine P_iald (pc := 69) (0) (x := nI (n0)) dX2_acceptWalker_69 sh_4 rfl (by omega) (by decide) (hn0) ?_
          refine P_aload_n (pc := 70) dX2_acceptWalker_70 rfl ?_
          refine P_getr (pc := 71) 2 0 dX2_acceptWalker_71 fl_X2_9 sh_3 fr_2_0 F_3_0 ?_
          refine P_iconst (pc := 74) (x := nI 1) dX2_acceptWalker_74 (by decide) ?_
          refine P_iald (pc := 75) (1) (x := nI (n1)) dX2_acceptWalker_75 sh_4 rfl (by omega) (by decide) (hn1) ?_
          refine P_aload_n (pc := 76) dX2_acceptWalker_76 rfl ?_
          refine P_getr (pc := 77) 2 0 dX2_acceptWalker_77 fl_X2_9 sh_3 fr_2_0 F_3_0 ?_
          refine P_iconst (pc := 80) (x := nI 2) dX2_acceptWalker_80 (by decide) ?_
          refine P_iald (pc := 81) (2) (x := nI (n2)) dX2_acceptWalker_81 sh_4 rfl (by omega) (by decide) (hn2) ?_
          have g29 := of_decide_eq_true h29
          have g42 := of_decide_eq_true h42
          have g55 := of_decide_eq_true h55
          obtain ⟨_, K, _, kc, rfl, rfl, hK⟩ := c_wadd_36 (l := l) (D := D) (tw := tw) (I := I) (m := s 116 1) (k := n0) (f := n1) (a := n2) hD.2.2.2.2.1.1 (by omega)
          refine P_callV (pc := 82) (S := []) (As := [_, _, _]) kc dX2_acceptWalker_82 ok_X10_add ml_X2_107 iv_X10_add ⟨by decide, by decide⟩ zret_v rfl ⟨rfl, by decide⟩ sh_62 ⟨by decide, rfl⟩ (Nat.le_of_ble_eq_true rfl) ?_
          refine P_iconst (pc := 85) (x := nI 1) dX2_acceptWalker_85 (by decide) ?_
          refine P_iret (pc := 86) dX2_acceptWalker_86 ?_
          subst hK
          exact ⟨congrArg some (zb_t (by omega)), rfl, fun a ha => zWd_o (by omega), fun _ => hD.W (by omega) (by omega) (by omega) (by omega)⟩
        · refine P_iconst (pc := 58) (x := nI 0) dX2_acceptWalker_58 (by decide) ?_
          refine P_iret (pc := 59) dX2_acceptWalker_59 ?_
          have g29 := of_decide_eq_true h29
          have g42 := of_decide_eq_true h42
          have g55 := of_decide_eq_false h55
          exact ⟨congrArg some (zb_f (by omega)), rfl, zDf.rf, fun z => by omega⟩
set_option maxRecDepth 20000 in
theorem c_acceptStreet_36 {l : Launch} {D : va_G} {tw : Nat} {I : AI} {s : Nat → Nat → Nat} {f : Bool} (hD : DrC s I 36) (hO : DrF s f) {n0 n1 n2 : Nat} (hn0 : I 4 0 = nI n0) (hn1 : I 4 1 = nI n1) (hn2 : I 4 2 = nI n2) (hb0 : n0 ≤ 99) (hb1 : n1 ≤ 99) (hb2 : n2 ≤ 99) : ZP l D zm_X2_acceptStreet 0 (zent 6 [.ref 3, .ref 36]) [] I (zF tw) (fun v J G => v = some (zb (decide (s 112 1 < 12 ∧ n0 < s 111 1 ∧ n1 < s 111 1 ∧ ¬ n0 = n1 ∧ ¬ nrD s (8 * n0 + n1) < 10000 ∧ 1 ≤ n2 ∧ n2 ≤ 20))) ∧ G = zF tw ∧ zDf 36 I J ∧ ((s 112 1 < 12 ∧ n0 < s 111 1 ∧ n1 < s 111 1 ∧ ¬ n0 = n1 ∧ ¬ nrD s (8 * n0 + n1) < 10000 ∧ 1 ≤ n2 ∧ n2 ≤ 20) → DrC (dS s n0 n1 n2) J 36)) := by
  obtain ⟨⟨d1, d2, d3, d4, d5⟩, dS1, dG1, dW1, dR1, dF1⟩ := hO
  show ZP _ _ _ _ [some _, some _, none, none, none, none] _ _ _ _
  refine P_aload_n (pc := 0) dX2_acceptStreet_0 rfl ?_
  refine P_getr (pc := 1) 8 0 dX2_acceptStreet_1 fl_X2_65 sh_36 fr_8_0 F_36_0 ?_
  refine P_astore_n (pc := 4) dX2_acceptStreet_4 (by decide) rfl ?_
  refine P_aload_n (pc := 5) dX2_acceptStreet_5 rfl ?_
  refine P_getr (pc := 6) 2 0 dX2_acceptStreet_6 fl_X2_9 sh_3 fr_2_0 F_3_0 ?_
  refine P_iconst (pc := 9) (x := nI 0) dX2_acceptStreet_9 (by decide) ?_
  refine P_iald (pc := 10) (0) (x := nI (n0)) dX2_acceptStreet_10 sh_4 rfl (by omega) (by decide) (hn0) ?_
  refine P_istore_n (pc := 11) dX2_acceptStreet_11 (by decide) rfl ?_
  refine P_aload_n (pc := 12) dX2_acceptStreet_12 rfl ?_
  refine P_getr (pc := 13) 2 0 dX2_acceptStreet_13 fl_X2_9 sh_3 fr_2_0 F_3_0 ?_
  refine P_iconst (pc := 16) (x := nI 1) dX2_acceptStreet_16 (by decide) ?_
  refine P_iald (pc := 17) (1) (x := nI (n1)) dX2_acceptStreet_17 sh_4 rfl (by omega) (by decide) (hn1) ?_
  refine P_istore (pc := 18) dX2_acceptStreet_18 (by decide) rfl ?_
  refine P_aload_n (pc := 20) dX2_acceptStreet_20 rfl ?_
  refine P_getr (pc := 21) 2 0 dX2_acceptStreet_21 fl_X2_9 sh_3 fr_2_0 F_3_0 ?_
  refine P_iconst (pc := 24) (x := nI 2) dX2_acceptStreet_24 (by decide) ?_
  refine P_iald (pc := 25) (2) (x := nI (n2)) dX2_acceptStreet_25 sh_4 rfl (by omega) (by decide) (hn2) ?_
  refine P_istore (pc := 26) dX2_acceptStreet_26 (by decide) rfl ?_
  refine P_aload_n (pc := 28) dX2_acceptStreet_28 rfl ?_
  refine P_geti (pc := 29) 6 1 (x := nI (s 112 1)) dX2_acceptStreet_29 fl_X2_74 sh_37 fi_6_1 (hD.1.2) ?_
  refine P_bipush (pc := 32) (x := nI 12) dX2_acceptStreet_32 (by decide) ?_
  refine P_icmp_geN (pc := 34) (tgt := 60) dX2_acceptStreet_34 (by decide) (by omega) (by omega) (fun h34 => ?_) (fun h34 => ?_)
  · refine P_iconst (pc := 60) (x := nI 0) dX2_acceptStreet_60 (by decide) ?_
    refine P_iret (pc := 61) dX2_acceptStreet_61 ?_
    exact ⟨congrArg some (zb_f (by omega)), rfl, zDf.rf, fun z => by omega⟩
  · refine P_iload_n (pc := 37) dX2_acceptStreet_37 rfl ?_
    refine P_aload_n (pc := 38) dX2_acceptStreet_38 rfl ?_
    refine P_geti (pc := 39) 6 0 (x := nI (s 111 1)) dX2_acceptStreet_39 fl_X2_69 sh_37 fi_6_0 (hD.1.1) ?_
    obtain ⟨_, _, _, ki1, rfl, rfl, rfl⟩ := c_isWithinN (l := l) (D := D) (tw := tw) (I := I) (j := (n0)) (n := (s 111 1)) (by omega) (by omega)
    refine P_callS (pc := 42) (S := []) (As := [_, _]) ki1 dX2_acceptStreet_42 ok_X11_isWithin ml_X2_77 is_X11_isWithin ⟨by decide, by decide⟩ (zret_b (decide ((n0) < (s 111 1)))) rfl ⟨rfl, by decide⟩ (Nat.le_of_ble_eq_true rfl) ?_
    refine P_if_eqB (pc := 45) (tgt := 60) dX2_acceptStreet_45 (by decide) (fun h45 => ?_) (fun h45 => ?_)
    · refine P_iconst (pc := 60) (x := nI 0) dX2_acceptStreet_60 (by decide) ?_
      refine P_iret (pc := 61) dX2_acceptStreet_61 ?_
      have g45 := of_decide_eq_false h45
      exact ⟨congrArg some (zb_f (by omega)), rfl, zDf.rf, fun z => by omega⟩
    · refine P_iload (pc := 48) dX2_acceptStreet_48 rfl ?_
      refine P_aload_n (pc := 50) dX2_acceptStreet_50 rfl ?_
      refine P_geti (pc := 51) 6 0 (x := nI (s 111 1)) dX2_acceptStreet_51 fl_X2_69 sh_37 fi_6_0 (hD.1.1) ?_
      obtain ⟨_, _, _, ki2, rfl, rfl, rfl⟩ := c_isWithinN (l := l) (D := D) (tw := tw) (I := I) (j := (n1)) (n := (s 111 1)) (by omega) (by omega)
      refine P_callS (pc := 54) (S := []) (As := [_, _]) ki2 dX2_acceptStreet_54 ok_X11_isWithin ml_X2_77 is_X11_isWithin ⟨by decide, by decide⟩ (zret_b (decide ((n1) < (s 111 1)))) rfl ⟨rfl, by decide⟩ (Nat.le_of_ble_eq_true rfl) ?_
      refine P_if_neB (pc := 57) (tgt := 62) dX2_acceptStreet_57 (by decide) (fun h57 => ?_) (fun h57 => ?_)
      · have g45 := of_decide_eq_true h45
        have g57 := of_decide_eq_true h57
        have hpos : 1 ≤ nrD s (8 * n0 + n1) := zNr_pos (fun k hk => (dS1 k hk).2.2.2.1) _
        have hz := zln_pos hpos
        refine P_iload_n (pc := 62) dX2_acceptStreet_62 rfl ?_
        refine P_iload (pc := 63) dX2_acceptStreet_63 rfl ?_
        refine P_icmp_eqN (pc := 65) (tgt := 93) dX2_acceptStreet_65 (by decide) (by omega) (by omega) (fun h65 => ?_) (fun h65 => ?_)
        · refine P_iconst (pc := 93) (x := nI 0) dX2_acceptStreet_93 (by decide) ?_
          refine P_iret (pc := 94) dX2_acceptStreet_94 ?_
          exact ⟨congrArg some (zb_f (by omega)), rfl, zDf.rf, fun z => by omega⟩
        · refine P_aload_n (pc := 68) dX2_acceptStreet_68 rfl ?_
          refine P_getr (pc := 69) 6 4 dX2_acceptStreet_69 fl_X2_81 sh_37 fr_6_4 F_37_4 ?_
          refine P_iload_n (pc := 72) dX2_acceptStreet_72 rfl ?_
          refine P_aald (pc := 73) ((n0)) dX2_acceptStreet_73 sh_40 (by decide) rfl (by omega) (by decide) (Fr_40 _ (by omega)) ?_
          refine P_iload (pc := 74) dX2_acceptStreet_74 rfl ?_
          refine P_iald (pc := 76) ((n1)) (x := nI (zln (nrD s (8 * (n0) + (n1))))) dX2_acceptStreet_76 (shr_41 _ (by omega)) rfl (by omega) (by decide) (hD.2.2.1 _ _ (by omega) (by omega)) ?_
          refine P_if_gt (pc := 77) (tgt := 93) dX2_acceptStreet_77 (by decide) (fun h77 => ?_) (fun h77 => ?_)
          · refine P_iconst (pc := 93) (x := nI 0) dX2_acceptStreet_93 (by decide) ?_
            refine P_iret (pc := 94) dX2_acceptStreet_94 ?_
            have g77 := (nI_pos0 (by omega)).mp h77
            have g78 := hz.1.mp g77
            exact ⟨congrArg some (zb_f (by omega)), rfl, zDf.rf, fun z => by omega⟩
          · refine P_iload (pc := 80) dX2_acceptStreet_80 rfl ?_
            refine P_iconst (pc := 82) (x := nI 1) dX2_acceptStreet_82 (by decide) ?_
            refine P_icmp_ltN (pc := 83) (tgt := 93) dX2_acceptStreet_83 (by decide) (by omega) (by omega) (fun h83 => ?_) (fun h83 => ?_)
            · refine P_iconst (pc := 93) (x := nI 0) dX2_acceptStreet_93 (by decide) ?_
              refine P_iret (pc := 94) dX2_acceptStreet_94 ?_
              exact ⟨congrArg some (zb_f (by omega)), rfl, zDf.rf, fun z => by omega⟩
            · refine P_iload (pc := 86) dX2_acceptStreet_86 rfl ?_
              refine P_bipush (pc := 88) (x := nI 20) dX2_acceptStreet_88 (by decide) ?_
              refine P_icmp_leN (pc := 90) (tgt := 95) dX2_acceptStreet_90 (by decide) (by omega) (by omega) (fun h90 => ?_) (fun h90 => ?_)
              · refine P_aload_n (pc := 95) dX2_acceptStreet_95 rfl ?_
                refine P_iload_n (pc := 96) dX2_acceptStreet_96 rfl ?_
                refine P_iload (pc := 97) dX2_acceptStreet_97 rfl ?_
                refine P_iload (pc := 99) dX2_acceptStreet_99 rfl ?_
                obtain ⟨_, K, _, kc, rfl, rfl, hK⟩ := c_stadd_36 (l := l) (D := D) (tw := tw) (I := I) (m := s 112 1) (a := n0) (b := n1) (x := n2) hD.1.2 (by omega) (by omega) (by omega)
                refine P_callV (pc := 101) (S := []) (As := [_, _, _]) kc dX2_acceptStreet_101 ok_X6_add ml_X2_85 iv_X6_add ⟨by decide, by decide⟩ zret_v rfl ⟨rfl, by decide⟩ sh_37 ⟨by decide, rfl⟩ (Nat.le_of_ble_eq_true rfl) ?_
                refine P_iconst (pc := 104) (x := nI 1) dX2_acceptStreet_104 (by decide) ?_
                refine P_iret (pc := 105) dX2_acceptStreet_105 ?_
                have g77 : ¬ nrD s (8 * n0 + n1) < 10000 := fun z => h77 ((nI_pos0 (by omega)).mpr (hz.1.mpr z))
                subst hK
                exact ⟨congrArg some (zb_t (by omega)), rfl, fun a ha => by unfold zSd; rw [zu_o _ _ (by omega), zu_o _ _ (by omega), zu_o _ _ (by omega), zu_o _ _ (by omega), zu_o _ _ (by omega)], fun _ => hD.S (by omega) (by omega) (by omega) (by omega)⟩
              · refine P_iconst (pc := 93) (x := nI 0) dX2_acceptStreet_93 (by decide) ?_
                refine P_iret (pc := 94) dX2_acceptStreet_94 ?_
                exact ⟨congrArg some (zb_f (by omega)), rfl, zDf.rf, fun z => by omega⟩
      · refine P_iconst (pc := 60) (x := nI 0) dX2_acceptStreet_60 (by decide) ?_
        refine P_iret (pc := 61) dX2_acceptStreet_61 ?_
        have g45 := of_decide_eq_true h45
        have g57 := of_decide_eq_false h57
        exact ⟨congrArg some (zb_f (by omega)), rfl, zDf.rf, fun z => by omega⟩
