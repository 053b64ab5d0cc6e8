set_option maxRecDepth 20000 in
theorem c_accept_5 {l : Launch} {D : va_G} {tw : Nat} {I : AI} {s : Nat → Nat → Nat} {f : Bool} (hD : DrC s I 5) (hO : DrF s f) (hf : I 3 2 = zb f) {c n0 n1 n2 : Nat} (hc : c ≤ 126) (hn0 : I 4 0 = nI n0) (hn12 : ¬ c = 99 → I 4 1 = nI n1 ∧ I 4 2 = nI n2) (hb0 : n0 ≤ 99) (hb1 : n1 ≤ 99) (hb2 : n2 ≤ 99) : ZP l D zm_X2_accept 0 (zent 3 [.ref 3, .int (nI c), .ref 5]) [] I (zF tw) (fun v J G => v = some (zb (zAcc s f c n0 n1 n2).isSome) ∧ G = zF tw ∧ zAf 5 I J ∧ J 3 1 = I 3 1 ∧ ∀ q, zAcc s f c n0 n1 n2 = some q → DrC q.1 J 5 ∧ J 3 2 = zb q.2) := by
  show ZP _ _ _ _ [some _, some _, some _] _ _ _ _
  refine P_iload_n (pc := 0) dX2_accept_0 rfl ?_
  refine P_bipush (pc := 1) (x := nI 99) dX2_accept_1 (by decide) ?_
  refine P_icmp_neN (pc := 3) (tgt := 27) dX2_accept_3 (by decide) (by omega) (by omega) (fun h3 => ?_) (fun h3 => ?_)
  · refine P_aload_n (pc := 27) dX2_accept_27 rfl ?_
    refine P_iconst (pc := 28) (x := nI 0) dX2_accept_28 (by decide) ?_
    refine P_puti (pc := 29) 2 2 dX2_accept_29 fl_X2_24 sh_3 fp_2_2 (by decide) (by decide) ?_
    refine P_iload_n (pc := 32) dX2_accept_32 rfl ?_
    obtain ⟨hn1, hn2⟩ := hn12 h3
    by_cases hc115 : c = 115
    · refine P_lookup (pc := 33) (off := 43) (tgt := 76) dX2_accept_33 (by decide) (by rw [hc115]; decide) (by decide) ?_
      refine P_aload_n (pc := 76) dX2_accept_76 rfl ?_
      refine P_aload_n (pc := 77) dX2_accept_77 rfl ?_
      obtain ⟨_, K, _, kc, rfl, rfl, hK1, hK2⟩ := c_acceptStreet_5 (l := l) (D := D) (tw := tw) (I := zu I 3 2 (nI 0)) (hD.eq (fun a h1 h2 => zu_o _ _ (by omega))) hO (n0 := n0) (n1 := n1) (n2 := n2) hn0 hn1 hn2 hb0 hb1 hb2
      refine P_callV (pc := 78) (S := []) (As := [_]) kc dX2_accept_78 ok_X2_acceptStreet ml_X2_53 iv_X2_acceptStreet ⟨by decide, by decide⟩ (zret_b (aOs s n0 n1 n2)) rfl ⟨rfl, by decide⟩ sh_3 ⟨by decide, rfl⟩ (Nat.le_of_ble_eq_true rfl) ?_
      refine P_iret (pc := 81) dX2_accept_81 ?_
      have hz : zAcc s f c n0 n1 n2 = if aOs s n0 n1 n2 = true then some (dS s n0 n1 n2, false) else none := by unfold zAcc; rw [if_neg h3, if_pos hc115]
      rw [hz]
      refine ⟨zb_some, rfl, fun a h3 h4 h5 => (hK1 a h5).trans (zu_o _ _ h3), (congrFun (hK1 3 (by decide)) 1).trans rfl, fun q hq => ?_⟩
      by_cases hk : aOs s n0 n1 n2 = true
      · rw [if_pos hk] at hq; cases hq; exact ⟨hK2 (of_decide_eq_true hk), (congrFun (hK1 3 (by decide)) 2).trans rfl⟩
      · rw [if_neg hk] at hq; cases hq
    by_cases hc103 : c = 103
    · refine P_lookup (pc := 33) (off := 49) (tgt := 82) dX2_accept_33 (by decide) (by rw [hc103]; decide) (by decide) ?_
      refine P_aload_n (pc := 82) dX2_accept_82 rfl ?_
      refine P_aload_n (pc := 83) dX2_accept_83 rfl ?_
      obtain ⟨_, K, _, kc, rfl, rfl, hK1, hK2⟩ := c_acceptSign_5 (l := l) (D := D) (tw := tw) (I := zu I 3 2 (nI 0)) (hD.eq (fun a h1 h2 => zu_o _ _ (by omega))) hO (n0 := n0) (n1 := n1) (n2 := n2) hn0 hn1 hn2 hb0 hb1 hb2
      refine P_callV (pc := 84) (S := []) (As := [_]) kc dX2_accept_84 ok_X2_acceptSign ml_X2_56 iv_X2_acceptSign ⟨by decide, by decide⟩ (zret_b (aOg s n0 n1 n2)) rfl ⟨rfl, by decide⟩ sh_3 ⟨by decide, rfl⟩ (Nat.le_of_ble_eq_true rfl) ?_
      refine P_iret (pc := 87) dX2_accept_87 ?_
      have hz : zAcc s f c n0 n1 n2 = if aOg s n0 n1 n2 = true then some (dG s n0 n1 n2, false) else none := by unfold zAcc; rw [if_neg h3, if_neg hc115, if_pos hc103]
      rw [hz]
      refine ⟨zb_some, rfl, fun a h3 h4 h5 => (hK1 a h5).trans (zu_o _ _ h3), (congrFun (hK1 3 (by decide)) 1).trans rfl, fun q hq => ?_⟩
      by_cases hk : aOg s n0 n1 n2 = true
      · rw [if_pos hk] at hq; cases hq; exact ⟨hK2 (of_decide_eq_true hk), (congrFun (hK1 3 (by decide)) 2).trans rfl⟩
      · rw [if_neg hk] at hq; cases hq
    by_cases hc119 : c = 119
    · refine P_lookup (pc := 33) (off := 55) (tgt := 88) dX2_accept_33 (by decide) (by rw [hc119]; decide) (by decide) ?_
      refine P_aload_n (pc := 88) dX2_accept_88 rfl ?_
      refine P_aload_n (pc := 89) dX2_accept_89 rfl ?_
      obtain ⟨_, K, _, kc, rfl, rfl, hK1, hK2⟩ := c_acceptWalker_5 (l := l) (D := D) (tw := tw) (I := zu I 3 2 (nI 0)) (hD.eq (fun a h1 h2 => zu_o _ _ (by omega))) hO (n0 := n0) (n1 := n1) (n2 := n2) hn0 hn1 hn2 hb0 hb1 hb2
      refine P_callV (pc := 90) (S := []) (As := [_]) kc dX2_accept_90 ok_X2_acceptWalker ml_X2_59 iv_X2_acceptWalker ⟨by decide, by decide⟩ (zret_b (aOw s n0 n1 n2)) rfl ⟨rfl, by decide⟩ sh_3 ⟨by decide, rfl⟩ (Nat.le_of_ble_eq_true rfl) ?_
      refine P_iret (pc := 93) dX2_accept_93 ?_
      have hz : zAcc s f c n0 n1 n2 = if aOw s n0 n1 n2 = true then some (dW s n0 n1 n2, false) else none := by unfold zAcc; rw [if_neg h3, if_neg hc115, if_neg hc103, if_pos hc119]
      rw [hz]
      refine ⟨zb_some, rfl, fun a h3 h4 h5 => (hK1 a h5).trans (zu_o _ _ h3), (congrFun (hK1 3 (by decide)) 1).trans rfl, fun q hq => ?_⟩
      by_cases hk : aOw s n0 n1 n2 = true
      · rw [if_pos hk] at hq; cases hq; exact ⟨hK2 (of_decide_eq_true hk), (congrFun (hK1 3 (by decide)) 2).trans rfl⟩
      · rw [if_neg hk] at hq; cases hq
    by_cases hc114 : c = 114
    · refine P_lookup (pc := 33) (off := 61) (tgt := 94) dX2_accept_33 (by decide) (by rw [hc114]; decide) (by decide) ?_
      refine P_aload_n (pc := 94) dX2_accept_94 rfl ?_
      refine P_aload_n (pc := 95) dX2_accept_95 rfl ?_
      obtain ⟨_, K, _, kc, rfl, rfl, hK1, hK2⟩ := c_acceptRates_5 (l := l) (D := D) (tw := tw) (I := zu I 3 2 (nI 0)) (hD.eq (fun a h1 h2 => zu_o _ _ (by omega))) hO (n0 := n0) (n1 := n1) (n2 := n2) hn0 hn1 hn2 hb0 hb1 hb2
      refine P_callV (pc := 96) (S := []) (As := [_]) kc dX2_accept_96 ok_X2_acceptRates ml_X2_62 iv_X2_acceptRates ⟨by decide, by decide⟩ (zret_b (aOr n0 n1 n2)) rfl ⟨rfl, by decide⟩ sh_3 ⟨by decide, rfl⟩ (Nat.le_of_ble_eq_true rfl) ?_
      refine P_iret (pc := 99) dX2_accept_99 ?_
      have hz : zAcc s f c n0 n1 n2 = if aOr n0 n1 n2 = true then some (dR s n0 n1 n2, false) else none := by unfold zAcc; rw [if_neg h3, if_neg hc115, if_neg hc103, if_neg hc119, if_pos hc114]
      rw [hz]
      refine ⟨zb_some, rfl, fun a h3 h4 h5 => (hK1 a h5).trans (zu_o _ _ h3), (congrFun (hK1 3 (by decide)) 1).trans rfl, fun q hq => ?_⟩
      by_cases hk : aOr n0 n1 n2 = true
      · rw [if_pos hk] at hq; cases hq; exact ⟨hK2 (of_decide_eq_true hk), (congrFun (hK1 3 (by decide)) 2).trans rfl⟩
      · rw [if_neg hk] at hq; cases hq
    refine P_lookup (pc := 33) (off := 67) (tgt := 100) dX2_accept_33 (by decide) (lk_d (fun q hq => by show q.1 ≠ (nI c).toInt; rw [nI_toInt (by omega)]; simp only [List.mem_cons, List.mem_nil_iff, or_false] at hq; rcases hq with rfl | rfl | rfl | rfl <;> (simp only [ne_eq]; omega))) (by decide) ?_
    refine P_iconst (pc := 100) (x := nI 0) dX2_accept_100 (by decide) ?_
    refine P_iret (pc := 101) dX2_accept_101 ?_
    have hz : zAcc s f c n0 n1 n2 = none := by unfold zAcc; rw [if_neg h3, if_neg hc115, if_neg hc103, if_neg hc119, if_neg hc114]
    exact ⟨by rw [hz]; rfl, rfl, fun a h3 h4 h5 => zu_o _ _ h3, rfl, fun q hq => by rw [hz] at hq; cases hq⟩
  · have h3c : c = 99 := by omega
    refine P_aload_n (pc := 6) dX2_accept_6 rfl ?_
    refine P_geti (pc := 7) 2 2 (x := zb (f)) dX2_accept_7 fl_X2_24 sh_3 fi_2_2 (hf) ?_
    refine P_if_eqB (pc := 10) (tgt := 25) dX2_accept_10 (by decide) (fun h10 => ?_) (fun h10 => ?_)
    · refine P_iconst (pc := 25) (x := nI 0) dX2_accept_25 (by decide) ?_
      refine P_iret (pc := 26) dX2_accept_26 ?_
      have hz : zAcc s f c n0 n1 n2 = none := by unfold zAcc; rw [if_pos h3c, h10]; rfl
      exact ⟨by rw [hz]; rfl, rfl, fun _ _ _ _ => rfl, rfl, fun q hq => by rw [hz] at hq; cases hq⟩
    · refine P_aload_n (pc := 13) dX2_accept_13 rfl ?_
      refine P_aload_n (pc := 14) dX2_accept_14 rfl ?_
      obtain ⟨_, K, _, kc, rfl, rfl, hK1, hK2⟩ := c_acceptCorners_5 (l := l) (D := D) (tw := tw) (I := I) hD hO (n0 := n0) hn0 hb0
      refine P_callV (pc := 15) (S := []) (As := [_]) kc dX2_accept_15 ok_X2_acceptCorners ml_X2_49 iv_X2_acceptCorners ⟨by decide, by decide⟩ (zret_b (aOc n0)) rfl ⟨rfl, by decide⟩ sh_3 ⟨by decide, rfl⟩ (Nat.le_of_ble_eq_true rfl) ?_
      refine P_if_eqB (pc := 18) (tgt := 25) dX2_accept_18 (by decide) (fun h18 => ?_) (fun h18 => ?_)
      · refine P_iconst (pc := 25) (x := nI 0) dX2_accept_25 (by decide) ?_
        refine P_iret (pc := 26) dX2_accept_26 ?_
        have hz : zAcc s f c n0 n1 n2 = none := by have h18b : aOc n0 = false := h18; unfold zAcc; rw [if_pos h3c, h10, h18b]; rfl
        exact ⟨by rw [hz]; rfl, rfl, fun a h3 h4 h5 => hK1 a h5, congrFun (hK1 3 (by decide)) 1, fun q hq => by rw [hz] at hq; cases hq⟩
      · refine P_iconst (pc := 21) (x := nI 1) dX2_accept_21 (by decide) ?_
        refine P_goto (pc := 22) (tgt := 26) dX2_accept_22 (by decide) ?_
        refine P_iret (pc := 26) dX2_accept_26 ?_
        have hz : zAcc s f c n0 n1 n2 = some (dC s n0, f) := by have h18b : aOc n0 = true := h18; unfold zAcc; rw [if_pos h3c, h10, h18b]; rfl
        exact ⟨by rw [hz]; rfl, rfl, fun a h3 h4 h5 => hK1 a h5, congrFun (hK1 3 (by decide)) 1, fun q hq => by rw [hz] at hq; cases hq; exact ⟨hK2 (of_decide_eq_true h18), (congrFun (hK1 3 (by decide)) 2).trans hf⟩⟩
set_option maxRecDepth 20000 in
theorem c_readInto_5 {l : Launch} {D : va_G} {tw : Nat} {I : AI} {s0 : Nat → Nat → Nat} (hX : CTx (s0 110) (s0 109 1) I) : ZP l D zm_X2_readInto 0 (zent 6 [.ref 3, .ref 5, .ref 1]) [] I (zF tw) (fun v J G => v = some (aFault s0) ∧ G = zF tw ∧ zAf 5 I J ∧ ∀ s3, zPar 201 (sIni s0) true 0 = .inr s3 → DrC s3 J 5 ∧ ∃ f3, DrF s3 f3) := by
  have ht := hX.2.1
  have loop : ∀ (d k : Nat) (s : Nat → Nat → Nat) (f : Bool) (p : Nat) (v4 v5 : Option Value) (J : AI), 201 - k < d → k ≤ 200 → k ≤ p → p ≤ 300 → s 110 = s0 110 → s 109 1 = s0 109 1 → zAf 5 I J → J 3 1 = nI p → J 3 2 = zb f → DrC s J 5 → DrF s f → zPar (201 - k) s f p = zPar 201 (sIni s0) true 0 → ZP l D zm_X2_readInto 16 [some (.ref 3), some (.ref 5), some (.ref 1), some (.int (nI k)), v4, v5] [] J (zF tw) (fun v J G => v = some (aFault s0) ∧ G = zF tw ∧ zAf 5 I J ∧ ∀ s3, zPar 201 (sIni s0) true 0 = .inr s3 → DrC s3 J 5 ∧ ∃ f3, DrF s3 f3) := by
    intro d
    induction d with
    | zero =>
      intro k s f p v4 v5 J hd
      exact absurd hd (by omega)
    | succ d ih =>
      intro k s f p v4 v5 J hd hk hkp hp3 hs0 hs1 hA hp hf hDr hO hpar
      refine P_iload_n (pc := 16) dX2_readInto_16 rfl ?_
      refine P_sipush (pc := 17) (x := nI 200) dX2_readInto_17 (by decide) ?_
      refine P_icmp_geN (pc := 20) (tgt := 99) dX2_readInto_20 (by decide) (by omega) (by omega) (fun h20 => ?_) (fun h20 => ?_)
      · refine P_bipush (pc := 99) (x := (-4)) dX2_readInto_99 (by decide) ?_
        refine P_iret (pc := 101) dX2_readInto_101 ?_
        have hz : zPar 201 (sIni s0) true 0 = .inr s := by rw [← hpar, show 201 - k = (200 - k) + 1 by omega, zPar, if_neg (by omega)]
        exact ⟨by unfold aFault; rw [hz], rfl, hA, fun s3 h => by rw [hz] at h; cases h; exact ⟨hDr, f, hO⟩⟩
      · refine P_aload_n (pc := 23) dX2_readInto_23 rfl ?_
        refine P_geti (pc := 24) 2 1 (x := nI (p)) dX2_readInto_24 fl_X2_20 sh_3 fi_2_1 (hp) ?_
        refine P_aload_n (pc := 27) dX2_readInto_27 rfl ?_
        refine P_geti (pc := 28) 7 1 (x := nI (s 109 1)) dX2_readInto_28 fl_X2_28 sh_1 fi_7_1 ((congrFun (hA 1 (by decide) (by decide) (by decide)) 1).trans (by rw [hs1]; exact hX.1)) ?_
        refine P_icmp_geN (pc := 31) (tgt := 99) dX2_readInto_31 (by decide) (by omega) (by omega) (fun h31 => ?_) (fun h31 => ?_)
        · refine P_bipush (pc := 99) (x := (-4)) dX2_readInto_99 (by decide) ?_
          refine P_iret (pc := 101) dX2_readInto_101 ?_
          have hz : zPar 201 (sIni s0) true 0 = .inr s := by rw [← hpar, show 201 - k = (200 - k) + 1 by omega, zPar, if_neg (by omega)]
          exact ⟨by unfold aFault; rw [hz], rfl, hA, fun s3 h => by rw [hz] at h; cases h; exact ⟨hDr, f, hO⟩⟩
        · refine P_aload_n (pc := 34) dX2_readInto_34 rfl ?_
          refine P_geti (pc := 35) 2 1 (x := nI (p)) dX2_readInto_35 fl_X2_20 sh_3 fi_2_1 (hp) ?_
          refine P_istore (pc := 38) dX2_readInto_38 (by decide) rfl ?_
          refine P_aload_n (pc := 40) dX2_readInto_40 rfl ?_
          refine P_aload_n (pc := 41) dX2_readInto_41 rfl ?_
          refine P_geti (pc := 42) 2 1 (x := nI (p)) dX2_readInto_42 fl_X2_20 sh_3 fi_2_1 (hp) ?_
          have hXJ : CTx (s 110) (s 109 1) J := by rw [hs0, hs1]; exact (hX.eq (hA 1 (by decide) (by decide) (by decide)) (hA 2 (by decide) (by decide) (by decide)))
          obtain ⟨_, _, _, kl, rfl, rfl, rfl⟩ := c_letterAt (l := l) (D := D) (tw := tw) (I := J) hXJ (p := p) (by omega)
          refine P_callV (pc := 45) (S := []) (As := [_]) kl dX2_readInto_45 ok_X7_letterAt ml_X2_33 iv_X7_letterAt ⟨by decide, by decide⟩ (zret_i _) rfl ⟨rfl, by decide⟩ sh_1 ⟨by decide, rfl⟩ (Nat.le_of_ble_eq_true rfl) ?_
          have hch : zCh (s 110) (s 109 1) p = some (s 110 p) := by unfold zCh; rw [if_pos (by omega)]
          rw [hch]
          have hlc : s 110 p ≤ 126 := zCh_lt (fun k hk => (hXJ.2.2 k hk).2) hch
          refine P_istore (pc := 48) dX2_readInto_48 (by decide) rfl ?_
          refine P_aload_n (pc := 50) dX2_readInto_50 rfl ?_
          refine P_dup (pc := 51) dX2_readInto_51 rfl ?_
          refine P_geti (pc := 52) 2 1 (x := nI (p)) dX2_readInto_52 fl_X2_20 sh_3 fi_2_1 (hp) ?_
          refine P_iconst (pc := 55) (x := nI 1) dX2_readInto_55 (by decide) ?_
          refine P_iaddN (pc := 56) dX2_readInto_56 ?_
          refine P_puti (pc := 57) 2 1 dX2_readInto_57 fl_X2_20 sh_3 fp_2_1 rfl rfl ?_
          refine P_aload_n (pc := 60) dX2_readInto_60 rfl ?_
          refine P_aload_n (pc := 61) dX2_readInto_61 rfl ?_
          refine P_iload (pc := 62) dX2_readInto_62 rfl ?_
          refine P_bipush (pc := 64) (x := nI 99) dX2_readInto_64 (by decide) ?_
          refine P_icmp_neN (pc := 66) (tgt := 73) dX2_readInto_66 (by decide) (by omega) (by omega) (fun h66 => ?_) (fun h66 => ?_)
          · refine P_iconst (pc := 73) (x := nI 3) dX2_readInto_73 (by decide) ?_
            obtain ⟨_, K, _, kn, rfl, rfl, hK1, hK2⟩ := c_readNumbers_3 (l := l) (D := D) (tw := tw) (I := zu J 3 1 (nI (p + 1))) (s := s) (p := p + 1) (hXJ.rr zRr.rf.u3) rfl (by omega)
            refine P_callV (pc := 74) (S := []) (As := [_, _]) kn dX2_readInto_74 ok_X2_readNumbers ml_X2_37 iv_X2_readNumbers ⟨by decide, by decide⟩ (zret_b ((zRk (s 110) (s 109 1) (p + 1) 44 && (zRk (s 110) (s 109 1) (zn1 s (p + 1)) 44 && zRk (s 110) (s 109 1) (zn1 s (zn1 s (p + 1))) 59)))) rfl ⟨rfl, by decide⟩ sh_3 ⟨by decide, rfl⟩ (Nat.le_of_ble_eq_true rfl) ?_
            refine P_if_eqB (pc := 77) (tgt := 90) dX2_readInto_77 (by decide) (fun h77 => ?_) (fun h77 => ?_)
            · refine P_iload (pc := 90) dX2_readInto_90 rfl ?_
              refine P_iret (pc := 92) dX2_readInto_92 ?_
              have hit : zItem s f p = none := by rw [zItem_acc hO, if_neg h66, if_neg (by rw [h77]; decide)]
              have hz : zPar 201 (sIni s0) true 0 = .inl p := by rw [← hpar, show 201 - k = (200 - k) + 1 by omega, zPar, if_pos (by omega), hit]
              exact ⟨by unfold aFault; rw [hz], rfl, (fun a h3 h4 h5 => (hK1.1 a h3 h4).trans ((zu_o _ _ h3).trans (hA a h3 h4 h5))), fun s3 h => by rw [hz] at h; cases h⟩
            · refine P_aload_n (pc := 80) dX2_readInto_80 rfl ?_
              refine P_iload (pc := 81) dX2_readInto_81 rfl ?_
              refine P_aload_n (pc := 83) dX2_readInto_83 rfl ?_
              have hDK : DrC s K 5 := hDr.eq (fun a h1 h2 => (hK1.1 a (by omega) (by omega)).trans (zu_o _ _ (by omega)))
              have hfK : K 3 2 = zb f := hK1.2.trans hf
              obtain ⟨_, Q, _, kq, rfl, rfl, hQ1, hQ2, hQ3⟩ := c_accept_5 (l := l) (D := D) (tw := tw) (I := K) hDK hO hfK (c := s 110 p) (n0 := zv1 s (p + 1)) (n1 := zv1 s (zn1 s (p + 1))) (n2 := zv1 s (zn1 s (zn1 s (p + 1)))) hlc (hK2 h77).1 (fun _ => ⟨(hK2 h77).2.1, (hK2 h77).2.2.1⟩) (zNum_le _ _ _).2 (zNum_le _ _ _).2 (zNum_le _ _ _).2
              refine P_callV (pc := 84) (S := []) (As := [_, _]) kq dX2_readInto_84 ok_X2_accept ml_X2_41 iv_X2_accept ⟨by decide, by decide⟩ (zret_b ((zAcc s f (s 110 p) (zv1 s (p + 1)) (zv1 s (zn1 s (p + 1))) (zv1 s (zn1 s (zn1 s (p + 1))))).isSome)) rfl ⟨rfl, by decide⟩ sh_3 ⟨by decide, rfl⟩ (Nat.le_of_ble_eq_true rfl) ?_
              refine P_if_neB (pc := 87) (tgt := 93) dX2_readInto_87 (by decide) (fun h87 => ?_) (fun h87 => ?_)
              · refine P_iincN (pc := 93) (c := 1) dX2_readInto_93 rfl (by decide) (by decide) rfl ?_
                refine P_goto (pc := 96) (tgt := 16) dX2_readInto_96 (by decide) ?_
                obtain ⟨q, hq⟩ := Option.isSome_iff_exists.mp h87
                have hit : zItem s f p = some (q.1, zq3 s p, q.2) := by rw [zItem_acc hO, if_neg h66, if_pos h77]; rw [hq]; rfl
                have hok := zItem_ok hO hit
                have hsc : q.1 110 = s 110 ∧ q.1 109 1 = s 109 1 := ⟨funext fun j => hok.2.2 110 j rfl, hok.2.2 109 1 rfl⟩
                refine ih (k + 1) q.1 q.2 (zq3 s p) _ _ Q (by omega) (by omega) ?_ ?_ (hsc.1.trans hs0) (hsc.2.trans hs1) (fun a h3 h4 h5 => (hQ1 a h3 h4 h5).trans ((hK1.1 a h3 h4).trans ((zu_o _ _ h3).trans (hA a h3 h4 h5)))) (hQ2.trans (hK2 h77).2.2.2) (hQ3 q hq).2 (hQ3 q hq).1 hok.1 ?_
                · have := hok.2.1.1; simp only [] at this; omega
                · have := hok.2.1.2; simp only [] at this; omega
                · rw [← hpar, show 201 - k = (201 - (k + 1)) + 1 by omega, zPar, if_pos (by omega), hit]
              · refine P_iload (pc := 90) dX2_readInto_90 rfl ?_
                refine P_iret (pc := 92) dX2_readInto_92 ?_
                have hit : zItem s f p = none := by have hzn : zAcc s f (s 110 p) (zv1 s (p + 1)) (zv1 s (zn1 s (p + 1))) (zv1 s (zn1 s (zn1 s (p + 1)))) = none := Option.not_isSome_iff_eq_none.mp (by rw [h87]; decide); rw [zItem_acc hO, if_neg h66, if_pos h77, hzn]; rfl
                have hz : zPar 201 (sIni s0) true 0 = .inl p := by rw [← hpar, show 201 - k = (200 - k) + 1 by omega, zPar, if_pos (by omega), hit]
                exact ⟨by unfold aFault; rw [hz], rfl, (fun a h3 h4 h5 => (hQ1 a h3 h4 h5).trans ((hK1.1 a h3 h4).trans ((zu_o _ _ h3).trans (hA a h3 h4 h5)))), fun s3 h => by rw [hz] at h; cases h⟩
          · refine P_iconst (pc := 69) (x := nI 1) dX2_readInto_69 (by decide) ?_
            refine P_goto (pc := 70) (tgt := 74) dX2_readInto_70 (by decide) ?_
            obtain ⟨_, K, _, kn, rfl, rfl, hK1, hK2⟩ := c_readNumbers_1 (l := l) (D := D) (tw := tw) (I := zu J 3 1 (nI (p + 1))) (s := s) (p := p + 1) (hXJ.rr zRr.rf.u3) rfl (by omega)
            refine P_callV (pc := 74) (S := []) (As := [_, _]) kn dX2_readInto_74 ok_X2_readNumbers ml_X2_37 iv_X2_readNumbers ⟨by decide, by decide⟩ (zret_b (zRk (s 110) (s 109 1) (p + 1) 59)) rfl ⟨rfl, by decide⟩ sh_3 ⟨by decide, rfl⟩ (Nat.le_of_ble_eq_true rfl) ?_
            refine P_if_eqB (pc := 77) (tgt := 90) dX2_readInto_77 (by decide) (fun h77 => ?_) (fun h77 => ?_)
            · refine P_iload (pc := 90) dX2_readInto_90 rfl ?_
              refine P_iret (pc := 92) dX2_readInto_92 ?_
              have hit : zItem s f p = none := by rw [zItem_acc hO, if_pos (by omega), if_neg (by rw [h77]; decide)]
              have hz : zPar 201 (sIni s0) true 0 = .inl p := by rw [← hpar, show 201 - k = (200 - k) + 1 by omega, zPar, if_pos (by omega), hit]
              exact ⟨by unfold aFault; rw [hz], rfl, (fun a h3 h4 h5 => (hK1.1 a h3 h4).trans ((zu_o _ _ h3).trans (hA a h3 h4 h5))), fun s3 h => by rw [hz] at h; cases h⟩
            · refine P_aload_n (pc := 80) dX2_readInto_80 rfl ?_
              refine P_iload (pc := 81) dX2_readInto_81 rfl ?_
              refine P_aload_n (pc := 83) dX2_readInto_83 rfl ?_
              have h66c : s 110 p = 99 := by omega
              have hDK : DrC s K 5 := hDr.eq (fun a h1 h2 => (hK1.1 a (by omega) (by omega)).trans (zu_o _ _ (by omega)))
              have hfK : K 3 2 = zb f := hK1.2.trans hf
              obtain ⟨_, Q, _, kq, rfl, rfl, hQ1, hQ2, hQ3⟩ := c_accept_5 (l := l) (D := D) (tw := tw) (I := K) hDK hO hfK (c := s 110 p) (n0 := zv1 s (p + 1)) (n1 := 0) (n2 := 0) hlc (hK2 h77).1 (fun z => absurd h66c z) (zNum_le _ _ _).2 (by omega) (by omega)
              refine P_callV (pc := 84) (S := []) (As := [_, _]) kq dX2_readInto_84 ok_X2_accept ml_X2_41 iv_X2_accept ⟨by decide, by decide⟩ (zret_b ((zAcc s f (s 110 p) (zv1 s (p + 1)) 0 0).isSome)) rfl ⟨rfl, by decide⟩ sh_3 ⟨by decide, rfl⟩ (Nat.le_of_ble_eq_true rfl) ?_
              refine P_if_neB (pc := 87) (tgt := 93) dX2_readInto_87 (by decide) (fun h87 => ?_) (fun h87 => ?_)
              · refine P_iincN (pc := 93) (c := 1) dX2_readInto_93 rfl (by decide) (by decide) rfl ?_
                refine P_goto (pc := 96) (tgt := 16) dX2_readInto_96 (by decide) ?_
                obtain ⟨q, hq⟩ := Option.isSome_iff_exists.mp h87
                have hit : zItem s f p = some (q.1, zn1 s (p + 1), q.2) := by rw [zItem_acc hO, if_pos h66c, if_pos h77]; rw [h66c] at hq; rw [hq]; rfl
                have hok := zItem_ok hO hit
                have hsc : q.1 110 = s 110 ∧ q.1 109 1 = s 109 1 := ⟨funext fun j => hok.2.2 110 j rfl, hok.2.2 109 1 rfl⟩
                refine ih (k + 1) q.1 q.2 (zn1 s (p + 1)) _ _ Q (by omega) (by omega) ?_ ?_ (hsc.1.trans hs0) (hsc.2.trans hs1) (fun a h3 h4 h5 => (hQ1 a h3 h4 h5).trans ((hK1.1 a h3 h4).trans ((zu_o _ _ h3).trans (hA a h3 h4 h5)))) (hQ2.trans (hK2 h77).2) (hQ3 q hq).2 (hQ3 q hq).1 hok.1 ?_
                · have := hok.2.1.1; simp only [] at this; omega
                · have := hok.2.1.2; simp only [] at this; omega
                · rw [← hpar, show 201 - k = (201 - (k + 1)) + 1 by omega, zPar, if_pos (by omega), hit]
              · refine P_iload (pc := 90) dX2_readInto_90 rfl ?_
                refine P_iret (pc := 92) dX2_readInto_92 ?_
                have hit : zItem s f p = none := by have hzn : zAcc s f (s 110 p) (zv1 s (p + 1)) 0 0 = none := Option.not_isSome_iff_eq_none.mp (by rw [h87]; decide); rw [h66c] at hzn; rw [zItem_acc hO, if_pos (by omega), if_pos h77, hzn]; rfl
                have hz : zPar 201 (sIni s0) true 0 = .inl p := by rw [← hpar, show 201 - k = (200 - k) + 1 by omega, zPar, if_pos (by omega), hit]
                exact ⟨by unfold aFault; rw [hz], rfl, (fun a h3 h4 h5 => (hQ1 a h3 h4 h5).trans ((hK1.1 a h3 h4).trans ((zu_o _ _ h3).trans (hA a h3 h4 h5)))), fun s3 h => by rw [hz] at h; cases h⟩
  show ZP _ _ _ _ [some _, some _, some _, none, none, none] _ _ _ _
  refine P_aload_n (pc := 0) dX2_readInto_0 rfl ?_
  obtain ⟨_, K, _, kc, rfl, rfl, hK1, hK2⟩ := c_tclear_5 (l := l) (D := D) (tw := tw) (I := I) (s := s0)
  refine P_callV (pc := 1) (S := []) (As := []) kc dX2_readInto_1 ok_X8_clear ml_X2_15 iv_X8_clear ⟨by decide, by decide⟩ zret_v rfl ⟨rfl, by decide⟩ sh_5 ⟨by decide, rfl⟩ (Nat.le_of_ble_eq_true rfl) ?_
  refine P_aload_n (pc := 4) dX2_readInto_4 rfl ?_
  refine P_iconst (pc := 5) (x := nI 0) dX2_readInto_5 (by decide) ?_
  refine P_puti (pc := 6) 2 1 dX2_readInto_6 fl_X2_20 sh_3 fp_2_1 rfl rfl ?_
  refine P_aload_n (pc := 9) dX2_readInto_9 rfl ?_
  refine P_iconst (pc := 10) (x := nI 1) dX2_readInto_10 (by decide) ?_
  refine P_puti (pc := 11) 2 2 dX2_readInto_11 fl_X2_24 sh_3 fp_2_2 (by decide) (by decide) ?_
  refine P_iconst (pc := 14) (x := nI 0) dX2_readInto_14 (by decide) ?_
  refine P_istore_n (pc := 15) dX2_readInto_15 (by decide) rfl ?_
  exact loop 202 0 (sIni s0) true 0 none none _ (by omega) (by omega) (by omega) (by omega) rfl rfl (fun a h3 h4 h5 => (zu_o _ _ h3).trans ((zu_o _ _ h3).trans (hK1 a h5))) rfl rfl (hK2.eq (fun a h1 h2 => (zu_o _ _ (by omega)).trans (zu_o _ _ (by omega)))) (sIni_ok s0) rfl
set_option maxRecDepth 20000 in
theorem c_accept_36 {l : Launch} {D : va_G} {tw : Nat} {I : AI} {s : Nat → Nat → Nat} {f : Bool} (hD : DrC s I 36) (hO : DrF s f) (hf : I 3 2 = zb f) {c n0 n1 n2 : Nat} (hc : c ≤ 126) (hn0 : I 4 0 = nI n0) (hn12 : ¬ c = 99 → I 4 1 = nI n1 ∧ I 4 2 = nI n2) (hb0 : n0 ≤ 99) (hb1 : n1 ≤ 99) (hb2 : n2 ≤ 99) : ZP l D zm_X2_accept 0 (zent 3 [.ref 3, .int (nI c), .ref 36]) [] I (zF tw) (fun v J G => v = some (zb (zAcc s f c n0 n1 n2).isSome) ∧ G = zF tw ∧ zAf 36 I J ∧ J 3 1 = I 3 1 ∧ ∀ q, zAcc s f c n0 n1 n2 = some q → DrC q.1 J 36 ∧ J 3 2 = zb q.2) := by
  show ZP _ _ _ _ [some _, some _, some _] _ _ _ _
  refine P_iload_n (pc := 0) dX2_accept_0 rfl ?_
  refine P_bipush (pc := 1) (x := nI 99) dX2_accept_1 (by decide) ?_
  refine P_icmp_neN (pc := 3) (tgt := 27) dX2_accept_3 (by decide) (by omega) (by omega) (fun h3 => ?_) (fun h3 => ?_)
  · refine P_aload_n (pc := 27) dX2_accept_27 rfl ?_
    refine P_iconst (pc := 28) (x := nI 0) dX2_accept_28 (by decide) ?_
    refine P_puti (pc := 29) 2 2 dX2_accept_29 fl_X2_24 sh_3 fp_2_2 (by decide) (by decide) ?_
    refine P_iload_n (pc := 32) dX2_accept_32 rfl ?_
    obtain ⟨hn1, hn2⟩ := hn12 h3
    by_cases hc115 : c = 115
    · refine P_lookup (pc := 33) (off := 43) (tgt := 76) dX2_accept_33 (by decide) (by rw [hc115]; decide) (by decide) ?_
      refine P_aload_n (pc := 76) dX2_accept_76 rfl ?_
      refine P_aload_n (pc := 77) dX2_accept_77 rfl ?_
      obtain ⟨_, K, _, kc, rfl, rfl, hK1, hK2⟩ := c_acceptStreet_36 (l := l) (D := D) (tw := tw) (I := zu I 3 2 (nI 0)) (hD.eq (fun a h1 h2 => zu_o _ _ (by omega))) hO (n0 := n0) (n1 := n1) (n2 := n2) hn0 hn1 hn2 hb0 hb1 hb2
      refine P_callV (pc := 78) (S := []) (As := [_]) kc dX2_accept_78 ok_X2_acceptStreet ml_X2_53 iv_X2_acceptStreet ⟨by decide, by decide⟩ (zret_b (aOs s n0 n1 n2)) rfl ⟨rfl, by decide⟩ sh_3 ⟨by decide, rfl⟩ (Nat.le_of_ble_eq_true rfl) ?_
      refine P_iret (pc := 81) dX2_accept_81 ?_
      have hz : zAcc s f c n0 n1 n2 = if aOs s n0 n1 n2 = true then some (dS s n0 n1 n2, false) else none := by unfold zAcc; rw [if_neg h3, if_pos hc115]
      rw [hz]
      refine ⟨zb_some, rfl, fun a h3 h4 h5 => (hK1 a h5).trans (zu_o _ _ h3), (congrFun (hK1 3 (by decide)) 1).trans rfl, fun q hq => ?_⟩
      by_cases hk : aOs s n0 n1 n2 = true
      · rw [if_pos hk] at hq; cases hq; exact ⟨hK2 (of_decide_eq_true hk), (congrFun (hK1 3 (by decide)) 2).trans rfl⟩
      · rw [if_neg hk] at hq; cases hq
    by_cases hc103 : c = 103
    · refine P_lookup (pc := 33) (off := 49) (tgt := 82) dX2_accept_33 (by decide) (by rw [hc103]; decide) (by decide) ?_
      refine P_aload_n (pc := 82) dX2_accept_82 rfl ?_
      refine P_aload_n (pc := 83) dX2_accept_83 rfl ?_
      obtain ⟨_, K, _, kc, rfl, rfl, hK1, hK2⟩ := c_acceptSign_36 (l := l) (D := D) (tw := tw) (I := zu I 3 2 (nI 0)) (hD.eq (fun a h1 h2 => zu_o _ _ (by omega))) hO (n0 := n0) (n1 := n1) (n2 := n2) hn0 hn1 hn2 hb0 hb1 hb2
      refine P_callV (pc := 84) (S := []) (As := [_]) kc dX2_accept_84 ok_X2_acceptSign ml_X2_56 iv_X2_acceptSign ⟨by decide, by decide⟩ (zret_b (aOg s n0 n1 n2)) rfl ⟨rfl, by decide⟩ sh_3 ⟨by decide, rfl⟩ (Nat.le_of_ble_eq_true rfl) ?_
      refine P_iret (pc := 87) dX2_accept_87 ?_
      have hz : zAcc s f c n0 n1 n2 = if aOg s n0 n1 n2 = true then some (dG s n0 n1 n2, false) else none := by unfold zAcc; rw [if_neg h3, if_neg hc115, if_pos hc103]
      rw [hz]
      refine ⟨zb_some, rfl, fun a h3 h4 h5 => (hK1 a h5).trans (zu_o _ _ h3), (congrFun (hK1 3 (by decide)) 1).trans rfl, fun q hq => ?_⟩
      by_cases hk : aOg s n0 n1 n2 = true
      · rw [if_pos hk] at hq; cases hq; exact ⟨hK2 (of_decide_eq_true hk), (congrFun (hK1 3 (by decide)) 2).trans rfl⟩
      · rw [if_neg hk] at hq; cases hq
    by_cases hc119 : c = 119
    · refine P_lookup (pc := 33) (off := 55) (tgt := 88) dX2_accept_33 (by decide) (by rw [hc119]; decide) (by decide) ?_
      refine P_aload_n (pc := 88) dX2_accept_88 rfl ?_
      refine P_aload_n (pc := 89) dX2_accept_89 rfl ?_
      obtain ⟨_, K, _, kc, rfl, rfl, hK1, hK2⟩ := c_acceptWalker_36 (l := l) (D := D) (tw := tw) (I := zu I 3 2 (nI 0)) (hD.eq (fun a h1 h2 => zu_o _ _ (by omega))) hO (n0 := n0) (n1 := n1) (n2 := n2) hn0 hn1 hn2 hb0 hb1 hb2
      refine P_callV (pc := 90) (S := []) (As := [_]) kc dX2_accept_90 ok_X2_acceptWalker ml_X2_59 iv_X2_acceptWalker ⟨by decide, by decide⟩ (zret_b (aOw s n0 n1 n2)) rfl ⟨rfl, by decide⟩ sh_3 ⟨by decide, rfl⟩ (Nat.le_of_ble_eq_true rfl) ?_
      refine P_iret (pc := 93) dX2_accept_93 ?_
      have hz : zAcc s f c n0 n1 n2 = if aOw s n0 n1 n2 = true then some (dW s n0 n1 n2, false) else none := by unfold zAcc; rw [if_neg h3, if_neg hc115, if_neg hc103, if_pos hc119]
      rw [hz]
      refine ⟨zb_some, rfl, fun a h3 h4 h5 => (hK1 a h5).trans (zu_o _ _ h3), (congrFun (hK1 3 (by decide)) 1).trans rfl, fun q hq => ?_⟩
      by_cases hk : aOw s n0 n1 n2 = true
      · rw [if_pos hk] at hq; cases hq; exact ⟨hK2 (of_decide_eq_true hk), (congrFun (hK1 3 (by decide)) 2).trans rfl⟩
      · rw [if_neg hk] at hq; cases hq
    by_cases hc114 : c = 114
    · refine P_lookup (pc := 33) (off := 61) (tgt := 94) dX2_accept_33 (by decide) (by rw [hc114]; decide) (by decide) ?_
      refine P_aload_n (pc := 94) dX2_accept_94 rfl ?_
      refine P_aload_n (pc := 95) dX2_accept_95 rfl ?_
      obtain ⟨_, K, _, kc, rfl, rfl, hK1, hK2⟩ := c_acceptRates_36 (l := l) (D := D) (tw := tw) (I := zu I 3 2 (nI 0)) (hD.eq (fun a h1 h2 => zu_o _ _ (by omega))) hO (n0 := n0) (n1 := n1) (n2 := n2) hn0 hn1 hn2 hb0 hb1 hb2
      refine P_callV (pc := 96) (S := []) (As := [_]) kc dX2_accept_96 ok_X2_acceptRates ml_X2_62 iv_X2_acceptRates ⟨by decide, by decide⟩ (zret_b (aOr n0 n1 n2)) rfl ⟨rfl, by decide⟩ sh_3 ⟨by decide, rfl⟩ (Nat.le_of_ble_eq_true rfl) ?_
      refine P_iret (pc := 99) dX2_accept_99 ?_
      have hz : zAcc s f c n0 n1 n2 = if aOr n0 n1 n2 = true then some (dR s n0 n1 n2, false) else none := by unfold zAcc; rw [if_neg h3, if_neg hc115, if_neg hc103, if_neg hc119, if_pos hc114]
      rw [hz]
      refine ⟨zb_some, rfl, fun a h3 h4 h5 => (hK1 a h5).trans (zu_o _ _ h3), (congrFun (hK1 3 (by decide)) 1).trans rfl, fun q hq => ?_⟩
      by_cases hk : aOr n0 n1 n2 = true
      · rw [if_pos hk] at hq; cases hq; exact ⟨hK2 (of_decide_eq_true hk), (congrFun (hK1 3 (by decide)) 2).trans rfl⟩
      · rw [if_neg hk] at hq; cases hq
    refine P_lookup (pc := 33) (off := 67) (tgt := 100) dX2_accept_33 (by decide) (lk_d (fun q hq => by show q.1 ≠ (nI c).toInt; rw [nI_toInt (by omega)]; simp only [List.mem_cons, List.mem_nil_iff, or_false] at hq; rcases hq with rfl | rfl | rfl | rfl <;> (simp only [ne_eq]; omega))) (by decide) ?_
    refine P_iconst (pc := 100) (x := nI 0) dX2_accept_100 (by decide) ?_
    refine P_iret (pc := 101) dX2_accept_101 ?_
    have hz : zAcc s f c n0 n1 n2 = none := by unfold zAcc; rw [if_neg h3, if_neg hc115, if_neg hc103, if_neg hc119, if_neg hc114]
    exact ⟨by rw [hz]; rfl, rfl, fun a h3 h4 h5 => zu_o _ _ h3, rfl, fun q hq => by rw [hz] at hq; cases hq⟩
  · have h3c : c = 99 := by omega
    refine P_aload_n (pc := 6) dX2_accept_6 rfl ?_
    refine P_geti (pc := 7) 2 2 (x := zb (f)) dX2_accept_7 fl_X2_24 sh_3 fi_2_2 (hf) ?_
    refine P_if_eqB (pc := 10) (tgt := 25) dX2_accept_10 (by decide) (fun h10 => ?_) (fun h10 => ?_)
    · refine P_iconst (pc := 25) (x := nI 0) dX2_accept_25 (by decide) ?_
      refine P_iret (pc := 26) dX2_accept_26 ?_
      have hz : zAcc s f c n0 n1 n2 = none := by unfold zAcc; rw [if_pos h3c, h10]; rfl
      exact ⟨by rw [hz]; rfl, rfl, fun _ _ _ _ => rfl, rfl, fun q hq => by rw [hz] at hq; cases hq⟩
    · refine P_aload_n (pc := 13) dX2_accept_13 rfl ?_
      refine P_aload_n (pc := 14) dX2_accept_14 rfl ?_
      obtain ⟨_, K, _, kc, rfl, rfl, hK1, hK2⟩ := c_acceptCorners_36 (l := l) (D := D) (tw := tw) (I := I) hD hO (n0 := n0) hn0 hb0
      refine P_callV (pc := 15) (S := []) (As := [_]) kc dX2_accept_15 ok_X2_acceptCorners ml_X2_49 iv_X2_acceptCorners ⟨by decide, by decide⟩ (zret_b (aOc n0)) rfl ⟨rfl, by decide⟩ sh_3 ⟨by decide, rfl⟩ (Nat.le_of_ble_eq_true rfl) ?_
      refine P_if_eqB (pc := 18) (tgt := 25) dX2_accept_18 (by decide) (fun h18 => ?_) (fun h18 => ?_)
      · refine P_iconst (pc := 25) (x := nI 0) dX2_accept_25 (by decide) ?_
        refine P_iret (pc := 26) dX2_accept_26 ?_
        have hz : zAcc s f c n0 n1 n2 = none := by have h18b : aOc n0 = false := h18; unfold zAcc; rw [if_pos h3c, h10, h18b]; rfl
        exact ⟨by rw [hz]; rfl, rfl, fun a h3 h4 h5 => hK1 a h5, congrFun (hK1 3 (by decide)) 1, fun q hq => by rw [hz] at hq; cases hq⟩
      · refine P_iconst (pc := 21) (x := nI 1) dX2_accept_21 (by decide) ?_
        refine P_goto (pc := 22) (tgt := 26) dX2_accept_22 (by decide) ?_
        refine P_iret (pc := 26) dX2_accept_26 ?_
        have hz : zAcc s f c n0 n1 n2 = some (dC s n0, f) := by have h18b : aOc n0 = true := h18; unfold zAcc; rw [if_pos h3c, h10, h18b]; rfl
        exact ⟨by rw [hz]; rfl, rfl, fun a h3 h4 h5 => hK1 a h5, congrFun (hK1 3 (by decide)) 1, fun q hq => by rw [hz] at hq; cases hq; exact ⟨hK2 (of_decide_eq_true h18), (congrFun (hK1 3 (by decide)) 2).trans hf⟩⟩
set_option maxRecDepth 20000 in
theorem c_readInto_36 {l : Launch} {D : va_G} {tw : Nat} {I : AI} {s0 : Nat → Nat → Nat} (hX : CTx (s0 110) (s0 109 1) I) : ZP l D zm_X2_readInto 0 (zent 6 [.ref 3, .ref 36, .ref 1]) [] I (zF tw) (fun v J G => v = some (aFault s0) ∧ G = zF tw ∧ zAf 36 I J ∧ ∀ s3, zPar 201 (sIni s0) true 0 = .inr s3 → DrC s3 J 36 ∧ ∃ f3, DrF s3 f3) := by
  have ht := hX.2.1
  have loop : ∀ (d k : Nat) (s : Nat → Nat → Nat) (f : Bool) (p : Nat) (v4 v5 : Option Value) (J : AI), 201 - k < d → k ≤ 200 → k ≤ p → p ≤ 300 → s 110 = s0 110 → s 109 1 = s0 109 1 → zAf 36 I J → J 3 1 = nI p → J 3 2 = zb f → DrC s J 36 → DrF s f → zPar (201 - k) s f p = zPar 201 (sIni s0) true 0 → ZP l D zm_X2_readInto 16 [some (.ref 3), some (.ref 36), some (.ref 1), some (.int (nI k)), v4, v5] [] J (zF tw) (fun v J G => v = some (aFault s0) ∧ G = zF tw ∧ zAf 36 I J ∧ ∀ s3, zPar 201 (sIni s0) true 0 = .inr s3 → DrC s3 J 36 ∧ ∃ f3, DrF s3 f3) := by
    intro d
    induction d with
    | zero =>
      intro k s f p v4 v5 J hd
      exact absurd hd (by omega)
    | succ d ih =>
      intro k s f p v4 v5 J hd hk hkp hp3 hs0 hs1 hA hp hf hDr hO hpar
      refine P_iload_n (pc := 16) dX2_readInto_16 rfl ?_
      refine P_sipush (pc := 17) (x := nI 200) dX2_readInto_17 (by decide) ?_
      refine P_icmp_geN (pc := 20) (tgt := 99) dX2_readInto_20 (by decide) (by omega) (by omega) (fun h20 => ?_) (fun h20 => ?_)
      · refine P_bipush (pc := 99) (x := (-4)) dX2_readInto_99 (by decide) ?_
        refine P_iret (pc := 101) dX2_readInto_101 ?_
        have hz : zPar 201 (sIni s0) true 0 = .inr s := by rw [← hpar, show 201 - k = (200 - k) + 1 by omega, zPar, if_neg (by omega)]
        exact ⟨by unfold aFault; rw [hz], rfl, hA, fun s3 h => by rw [hz] at h; cases h; exact ⟨hDr, f, hO⟩⟩
      · refine P_aload_n (pc := 23) dX2_readInto_23 rfl ?_
        refine P_geti (pc := 24) 2 1 (x := nI (p)) dX2_readInto_24 fl_X2_20 sh_3 fi_2_1 (hp) ?_
        refine P_aload_n (pc := 27) dX2_readInto_27 rfl ?_
        refine P_geti (pc := 28) 7 1 (x := nI (s 109 1)) dX2_readInto_28 fl_X2_28 sh_1 fi_7_1 ((congrFun (hA 1 (by decide) (by decide) (by decide)) 1).trans (by rw [hs1]; exact hX.1)) ?_
        refine P_icmp_geN (pc := 31) (tgt := 99) dX2_readInto_31 (by decide) (by omega) (by omega) (fun h31 => ?_) (fun h31 => ?_)
        · refine P_bipush (pc := 99) (x := (-4)) dX2_readInto_99 (by decide) ?_
          refine P_iret (pc := 101) dX2_readInto_101 ?_
          have hz : zPar 201 (sIni s0) true 0 = .inr s := by rw [← hpar, show 201 - k = (200 - k) + 1 by omega, zPar, if_neg (by omega)]
          exact ⟨by unfold aFault; rw [hz], rfl, hA, fun s3 h => by rw [hz] at h; cases h; exact ⟨hDr, f, hO⟩⟩
        · refine P_aload_n (pc := 34) dX2_readInto_34 rfl ?_
          refine P_geti (pc := 35) 2 1 (x := nI (p)) dX2_readInto_35 fl_X2_20 sh_3 fi_2_1 (hp) ?_
          refine P_istore (pc := 38) dX2_readInto_38 (by decide) rfl ?_
          refine P_aload_n (pc := 40) dX2_readInto_40 rfl ?_
          refine P_aload_n (pc := 41) dX2_readInto_41 rfl ?_
          refine P_geti (pc := 42) 2 1 (x := nI (p)) dX2_readInto_42 fl_X2_20 sh_3 fi_2_1 (hp) ?_
          have hXJ : CTx (s 110) (s 109 1) J := by rw [hs0, hs1]; exact (hX.eq (hA 1 (by decide) (by decide) (by decide)) (hA 2 (by decide) (by decide) (by decide)))
          obtain ⟨_, _, _, kl, rfl, rfl, rfl⟩ := c_letterAt (l := l) (D := D) (tw := tw) (I := J) hXJ (p := p) (by omega)
          refine P_callV (pc := 45) (S := []) (As := [_]) kl dX2_readInto_45 ok_X7_letterAt ml_X2_33 iv_X7_letterAt ⟨by decide, by decide⟩ (zret_i _) rfl ⟨rfl, by decide⟩ sh_1 ⟨by decide, rfl⟩ (Nat.le_of_ble_eq_true rfl) ?_
          have hch : zCh (s 110) (s 109 1) p = some (s 110 p) := by unfold zCh; rw [if_pos (by omega)]
          rw [hch]
          have hlc : s 110 p ≤ 126 := zCh_lt (fun k hk => (hXJ.2.2 k hk).2) hch
          refine P_istore (pc := 48) dX2_readInto_48 (by decide) rfl ?_
          refine P_aload_n (pc := 50) dX2_readInto_50 rfl ?_
          refine P_dup (pc := 51) dX2_readInto_51 rfl ?_
          refine P_geti (pc := 52) 2 1 (x := nI (p)) dX2_readInto_52 fl_X2_20 sh_3 fi_2_1 (hp) ?_
          refine P_iconst (pc := 55) (x := nI 1) dX2_readInto_55 (by decide) ?_
          refine P_iaddN (pc := 56) dX2_readInto_56 ?_
          refine P_puti (pc := 57) 2 1 dX2_readInto_57 fl_X2_20 sh_3 fp_2_1 rfl rfl ?_
          refine P_aload_n (pc := 60) dX2_readInto_60 rfl ?_
          refine P_aload_n (pc := 61) dX2_readInto_61 rfl ?_
          refine P_iload (pc := 62) dX2_readInto_62 rfl ?_
          refine P_bipush (pc := 64) (x := nI 99) dX2_readInto_64 (by decide) ?_
          refine P_icmp_neN (pc := 66) (tgt := 73) dX2_readInto_66 (by decide) (by omega) (by omega) (fun h66 => ?_) (fun h66 => ?_)
          · refine P_iconst (pc := 73) (x := nI 3) dX2_readInto_73 (by decide) ?_
            obtain ⟨_, K, _, kn, rfl, rfl, hK1, hK2⟩ := c_readNumbers_3 (l := l) (D := D) (tw := tw) (I := zu J 3 1 (nI (p + 1))) (s := s) (p := p + 1) (hXJ.rr zRr.rf.u3) rfl (by omega)
            refine P_callV (pc := 74) (S := []) (As := [_, _]) kn dX2_readInto_74 ok_X2_readNumbers ml_X2_37 iv_X2_readNumbers ⟨by decide, by decide⟩ (zret_b ((zRk (s 110) (s 109 1) (p + 1) 44 && (zRk (s 110) (s 109 1) (zn1 s (p + 1)) 44 && zRk (s 110) (s 109 1) (zn1 s (zn1 s (p + 1))) 59)))) rfl ⟨rfl, by decide⟩ sh_3 ⟨by decide, rfl⟩ (Nat.le_of_ble_eq_true rfl) ?_
            refine P_if_eqB (pc := 77) (tgt := 90) dX2_readInto_77 (by decide) (fun h77 => ?_) (fun h77 => ?_)
            · refine P_iload (pc := 90) dX2_readInto_90 rfl ?_
              refine P_iret (pc := 92) dX2_readInto_92 ?_
              have hit : zItem s f p = none := by rw [zItem_acc hO, if_neg h66, if_neg (by rw [h77]; decide)]
              have hz : zPar 201 (sIni s0) true 0 = .inl p := by rw [← hpar, show 201 - k = (200 - k) + 1 by omega, zPar, if_pos (by omega), hit]
              exact ⟨by unfold aFault; rw [hz], rfl, (fun a h3 h4 h5 => (hK1.1 a h3 h4).trans ((zu_o _ _ h3).trans (hA a h3 h4 h5))), fun s3 h => by rw [hz] at h; cases h⟩
            · refine P_aload_n (pc := 80) dX2_readInto_80 rfl ?_
              refine P_iload (pc := 81) dX2_readInto_81 rfl ?_
              refine P_aload_n (pc := 83) dX2_readInto_83 rfl ?_
              have hDK : DrC s K 36 := hDr.eq (fun a h1 h2 => (hK1.1 a (by omega) (by omega)).trans (zu_o _ _ (by omega)))
              have hfK : K 3 2 = zb f := hK1.2.trans hf
              obtain ⟨_, Q, _, kq, rfl, rfl, hQ1, hQ2, hQ3⟩ := c_accept_36 (l := l) (D := D) (tw := tw) (I := K) hDK hO hfK (c := s 110 p) (n0 := zv1 s (p + 1)) (n1 := zv1 s (zn1 s (p + 1))) (n2 := zv1 s (zn1 s (zn1 s (p + 1)))) hlc (hK2 h77).1 (fun _ => ⟨(hK2 h77).2.1, (hK2 h77).2.2.1⟩) (zNum_le _ _ _).2 (zNum_le _ _ _).2 (zNum_le _ _ _).2
              refine P_callV (pc := 84) (S := []) (As := [_, _]) kq dX2_readInto_84 ok_X2_accept ml_X2_41 iv_X2_accept ⟨by decide, by decide⟩ (zret_b ((zAcc s f (s 110 p) (zv1 s (p + 1)) (zv1 s (zn1 s (p + 1))) (zv1 s (zn1 s (zn1 s (p + 1))))).isSome)) rfl ⟨rfl, by decide⟩ sh_3 ⟨by decide, rfl⟩ (Nat.le_of_ble_eq_true rfl) ?_
              refine P_if_neB (pc := 87) (tgt := 93) dX2_readInto_87 (by decide) (fun h87 => ?_) (fun h87 => ?_)
              · refine P_iincN (pc := 93) (c := 1) dX2_readInto_93 rfl (by decide) (by decide) rfl ?_
                refine P_goto (pc := 96) (tgt := 16) dX2_readInto_96 (by decide) ?_
                obtain ⟨q, hq⟩ := Option.isSome_iff_exists.mp h87
                have hit : zItem s f p = some (q.1, zq3 s p, q.2) := by rw [zItem_acc hO, if_neg h66, if_pos h77]; rw [hq]; rfl
                have hok := zItem_ok hO hit
                have hsc : q.1 110 = s 110 ∧ q.1 109 1 = s 109 1 := ⟨funext fun j => hok.2.2 110 j rfl, hok.2.2 109 1 rfl⟩
                refine ih (k + 1) q.1 q.2 (zq3 s p) _ _ Q (by omega) (by omega) ?_ ?_ (hsc.1.trans hs0) (hsc.2.trans hs1) (fun a h3 h4 h5 => (hQ1 a h3 h4 h5).trans ((hK1.1 a h3 h4).trans ((zu_o _ _ h3).trans (hA a h3 h4 h5)))) (hQ2.trans (hK2 h77).2.2.2) (hQ3 q hq).2 (hQ3 q hq).1 hok.1 ?_
                · have := hok.2.1.1; simp only [] at this; omega
                · have := hok.2.1.2; simp only [] at this; omega
                · rw [← hpar, show 201 - k = (201 - (k + 1)) + 1 by omega, zPar, if_pos (by omega), hit]
              · refine P_iload (pc := 90) dX2_readInto_90 rfl ?_
                refine P_iret (pc := 92) dX2_readInto_92 ?_
                have hit : zItem s f p = none := by have hzn : zAcc s f (s 110 p) (zv1 s (p + 1)) (zv1 s (zn1 s (p + 1))) (zv1 s (zn1 s (zn1 s (p + 1)))) = none := Option.not_isSome_iff_eq_none.mp (by rw [h87]; decide); rw [zItem_acc hO, if_neg h66, if_pos h77, hzn]; rfl
                have hz : zPar 201 (sIni s0) true 0 = .inl p := by rw [← hpar, show 201 - k = (200 - k) + 1 by omega, zPar, if_pos (by omega), hit]
                exact ⟨by unfold aFault; rw [hz], rfl, (fun a h3 h4 h5 => (hQ1 a h3 h4 h5).trans ((hK1.1 a h3 h4).trans ((zu_o _ _ h3).trans (hA a h3 h4 h5)))), fun s3 h => by rw [hz] at h; cases h⟩
          · refine P_iconst (pc := 69) (x := nI 1) dX2_readInto_69 (by decide) ?_
            refine P_goto (pc := 70) (tgt := 74) dX2_readInto_70 (by decide) ?_
            obtain ⟨_, K, _, kn, rfl, rfl, hK1, hK2⟩ := c_readNumbers_1 (l := l) (D := D) (tw := tw) (I := zu J 3 1 (nI (p + 1))) (s := s) (p := p + 1) (hXJ.rr zRr.rf.u3) rfl (by omega)
            refine P_callV (pc := 74) (S := []) (As := [_, _]) kn dX2_readInto_74 ok_X2_readNumbers ml_X2_37 iv_X2_readNumbers ⟨by decide, by decide⟩ (zret_b (zRk (s 110) (s 109 1) (p + 1) 59)) rfl ⟨rfl, by decide⟩ sh_3 ⟨by decide, rfl⟩ (Nat.le_of_ble_eq_true rfl) ?_
            refine P_if_eqB (pc := 77) (tgt := 90) dX2_readInto_77 (by decide) (fun h77 => ?_) (fun h77 => ?_)
            · refine P_iload (pc := 90) dX2_readInto_90 rfl ?_
              refine P_iret (pc := 92) dX2_readInto_92 ?_
              have hit : zItem s f p = none := by rw [zItem_acc hO, if_pos (by omega), if_neg (by rw [h77]; decide)]
              have hz : zPar 201 (sIni s0) true 0 = .inl p := by rw [← hpar, show 201 - k = (200 - k) + 1 by omega, zPar, if_pos (by omega), hit]
              exact ⟨by unfold aFault; rw [hz], rfl, (fun a h3 h4 h5 => (hK1.1 a h3 h4).trans ((zu_o _ _ h3).trans (hA a h3 h4 h5))), fun s3 h => by rw [hz] at h; cases h⟩
            · refine P_aload_n (pc := 80) dX2_readInto_80 rfl ?_
              refine P_iload (pc := 81) dX2_readInto_81 rfl ?_
              refine P_aload_n (pc := 83) dX2_readInto_83 rfl ?_
              have h66c : s 110 p = 99 := by omega
              have hDK : DrC s K 36 := hDr.eq (fun a h1 h2 => (hK1.1 a (by omega) (by omega)).trans (zu_o _ _ (by omega)))
              have hfK : K 3 2 = zb f := hK1.2.trans hf
              obtain ⟨_, Q, _, kq, rfl, rfl, hQ1, hQ2, hQ3⟩ := c_accept_36 (l := l) (D := D) (tw := tw) (I := K) hDK hO hfK (c := s 110 p) (n0 := zv1 s (p + 1)) (n1 := 0) (n2 := 0) hlc (hK2 h77).1 (fun z => absurd h66c z) (zNum_le _ _ _).2 (by omega) (by omega)
              refine P_callV (pc := 84) (S := []) (As := [_, _]) kq dX2_readInto_84 ok_X2_accept ml_X2_41 iv_X2_accept ⟨by decide, by decide⟩ (zret_b ((zAcc s f (s 110 p) (zv1 s (p + 1)) 0 0).isSome)) rfl ⟨rfl, by decide⟩ sh_3 ⟨by decide, rfl⟩ (Nat.le_of_ble_eq_true rfl) ?_
              refine P_if_neB (pc := 87) (tgt := 93) dX2_readInto_87 (by decide) (fun h87 => ?_) (fun h87 => ?_)
              · refine P_iincN (pc := 93) (c := 1) dX2_readInto_93 rfl (by decide) (by decide) rfl ?_
                refine P_goto (pc := 96) (tgt := 16) dX2_readInto_96 (by decide) ?_
                obtain ⟨q, hq⟩ := Option.isSome_iff_exists.mp h87
                have hit : zItem s f p = some (q.1, zn1 s (p + 1), q.2) := by rw [zItem_acc hO, if_pos h66c, if_pos h77]; rw [h66c] at hq; rw [hq]; rfl
                have hok := zItem_ok hO hit
                have hsc : q.1 110 = s 110 ∧ q.1 109 1 = s 109 1 := ⟨funext fun j => hok.2.2 110 j rfl, hok.2.2 109 1 rfl⟩
                refine ih (k + 1) q.1 q.2 (zn1 s (p + 1)) _ _ Q (by omega) (by omega) ?_ ?_ (hsc.1.trans hs0) (hsc.2.trans hs1) (fun a h3 h4 h5 => (hQ1 a h3 h4 h5).trans ((hK1.1 a h3 h4).trans ((zu_o _ _ h3).trans (hA a h3 h4 h5)))) (hQ2.trans (hK2 h77).2) (hQ3 q hq).2 (hQ3 q hq).1 hok.1 ?_
                · have := hok.2.1.1; simp only [] at this; omega
                · have := hok.2.1.2; simp only [] at this; omega
                · rw [← hpar, show 201 - k = (201 - (k + 1)) + 1 by omega, zPar, if_pos (by omega), hit]
              · refine P_iload (pc := 90) dX2_readInto_90 rfl ?_
                refine P_iret (pc := 92) dX2_readInto_92 ?_
                have hit : zItem s f p = none := by have hzn : zAcc s f (s 110 p) (zv1 s (p + 1)) 0 0 = none := Option.not_isSome_iff_eq_none.mp (by rw [h87]; decide); rw [h66c] at hzn; rw [zItem_acc hO, if_pos (by omega), if_pos h77, hzn]; rfl
                have hz : zPar 201 (sIni s0) true 0 = .inl p := by rw [← hpar, show 201 - k = (200 - k) + 1 by omega, zPar, if_pos (by omega), hit]
                exact ⟨by unfold aFault; rw [hz], rfl, (fun a h3 h4 h5 => (hQ1 a h3 h4 h5).trans ((hK1.1 a h3 h4).trans ((zu_o _ _ h3).trans (hA a h3 h4 h5)))), fun s3 h => by rw [hz] at h; cases h⟩
  show ZP _ _ _ _ [some _, some _, some _, none, none, none] _ _ _ _
  refine P_aload_n (pc := 0) dX2_readInto_0 rfl ?_
  obtain ⟨_, K, _, kc, rfl, rfl, hK1, hK2⟩ := c_tclear_36 (l := l) (D := D) (tw := tw) (I := I) (s := s0)
  refine P_callV (pc := 1) (S := []) (As := []) kc dX2_readInto_1 ok_X8_clear ml_X2_15 iv_X8_clear ⟨by decide, by decide⟩ zret_v rfl ⟨rfl, by decide⟩ sh_36 ⟨by decide, rfl⟩ (Nat.le_of_ble_eq_true rfl) ?_
  refine P_aload_n (pc := 4) dX2_readInto_4 rfl ?_
  refine P_iconst (pc := 5) (x := nI 0) dX2_readInto_5 (by decide) ?_
  refine P_puti (pc := 6) 2 1 dX2_readInto_6 fl_X2_20 sh_3 fp_2_1 rfl rfl ?_
  refine P_aload_n (pc := 9) dX2_readInto_9 rfl ?_
  refine P_iconst (pc := 10) (x := nI 1) dX2_readInto_10 (by decide) ?_
  refine P_puti (pc := 11) 2 2 dX2_readInto_11 fl_X2_24 sh_3 fp_2_2 (by decide) (by decide) ?_
  refine P_iconst (pc := 14) (x := nI 0) dX2_readInto_14 (by decide) ?_
  refine P_istore_n (pc := 15) dX2_readInto_15 (by decide) rfl ?_
  exact loop 202 0 (sIni s0) true 0 none none _ (by omega) (by omega) (by omega) (by omega) rfl rfl (fun a h3 h4 h5 => (zu_o _ _ h3).trans ((zu_o _ _ h3).trans (hK1 a h5))) rfl rfl (hK2.eq (fun a h1 h2 => (zu_o _ _ (by omega)).trans (zu_o _ _ (by omega)))) (sIni_ok s0) rfl
