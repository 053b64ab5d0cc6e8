set_option maxRecDepth 20000 in
theorem c_watch {l : Launch} {D : va_G} {tw : Nat} {I : AI} {s : Nat → Nat → Nat} (hR : RefV s I) (hT : RefT s) (hP : RefP s) (hK : RefK s 0) (hn1 : 1 ≤ s 111 0) {x : Int32} : ZP l D zm_X12_watch 0 (zent 4 [.ref 109, .int x]) [] I (zF tw) (fun v J G => v = some (aWatch s x) ∧ G = zF tw ∧ (zFG I J)) := by
  have hP0 := hP.1
  have hnc := hT.2.1
  show ZP _ _ _ _ [some _, some _, none, none] _ _ _ _
  refine P_iload_n (pc := 0) dX12_watch_0 rfl ?_
  refine P_iconst (pc := 1) (x := nI 0) dX12_watch_1 (by decide) ?_
  refine P_iconst (pc := 2) (x := nI 1) dX12_watch_2 (by decide) ?_
  obtain ⟨_, _, _, k1, rfl, rfl, rfl⟩ := c_inN (l := l) (D := D) (tw := tw) (x := x) (m := 1) (by omega)
  refine P_callS (pc := 3) (S := []) (As := [_, _, _]) k1 dX12_watch_3 ok_X12_in ml_X12_94 is_X12_in ⟨by decide, by decide⟩ (zret_b (zix x (1 + 1))) rfl ⟨rfl, by decide⟩ (Nat.le_of_ble_eq_true rfl) ?_
  refine P_if_neB (pc := 6) (tgt := 11) dX12_watch_6 (by decide) (fun h6 => ?_) (fun h6 => ?_)
  · obtain ⟨i, hl_i, rfl⟩ := zix_t h6 (by omega)
    refine P_iconst (pc := 11) (x := nI 0) dX12_watch_11 (by decide) ?_
    refine P_istore_n (pc := 12) dX12_watch_12 (by decide) rfl ?_
    have loop : ∀ (d : Nat) (k : Nat) (K : AI), 8 - k < d → k ≤ 8 → zFG I K → (∀ x, x < k → K 126 x = nI 0) → ZP l D zm_X12_watch 13 [some (.ref 109), some (.int (nI i)), some (.int (nI k)), none] [] K (zF tw) (fun v J G => v = some (aWatch s (nI i)) ∧ G = zF tw ∧ (zFG I J)) := by
      intro d
      induction d with
      | zero =>
        intro k K hd
        exact absurd hd (by omega)
      | succ d ih =>
        intro k K hd hk hF1 hz
        refine P_iload_n (pc := 13) dX12_watch_13 rfl ?_
        refine P_bipush (pc := 14) (x := nI 8) dX12_watch_14 (by decide) ?_
        refine P_icmp_geN (pc := 16) (tgt := 32) dX12_watch_16 (by decide) (by omega) (by omega) (fun h16 => ?_) (fun h16 => ?_)
        · refine P_aload_n (pc := 32) dX12_watch_32 rfl ?_
          refine P_iconst (pc := 33) (x := nI 0) dX12_watch_33 (by decide) ?_
          obtain ⟨_, J, _, kt, rfl, rfl, hF2, htl⟩ := c_taxBy (l := l) (D := D) (tw := tw) (b := 0) (hF1.R hR) hT hP (by omega) hK
          have hF := hF1.trans hF2
          have hwa : ∀ x, x < 8 → J 126 x = nI (zWa s x) := fun x hx => by rw [htl x, hz x (by omega), nI_add, Nat.zero_add]
          refine P_callV (pc := 34) (S := []) (As := [_]) kt dX12_watch_34 ok_X12_taxBy ml_X12_200 iv_X12_taxBy ⟨by decide, by decide⟩ (zret_i _) rfl ⟨rfl, by decide⟩ sh_109 ⟨by decide, rfl⟩ (Nat.le_of_ble_eq_true rfl) ?_
          refine P_pop (pc := 37) dX12_watch_37 rfl ?_
          refine P_iconst (pc := 38) (x := nI 0) dX12_watch_38 (by decide) ?_
          refine P_istore_n (pc := 39) dX12_watch_39 (by decide) rfl ?_
          refine P_iconst (pc := 40) (x := nI 1) dX12_watch_40 (by decide) ?_
          refine P_istore_n (pc := 41) dX12_watch_41 (by decide) rfl ?_
          have loop3 : ∀ (d : Nat) (c q : Nat), s 111 0 - c < d → c ≤ s 111 0 → q < c → zPkM (fun c => nI (zWa s c)) c = some (q, nI (zWa s q)) → ZP l D zm_X12_watch 42 [some (.ref 109), some (.int (nI i)), some (.int (nI q)), some (.int (nI c))] [] J (zF tw) (fun v J G => v = some (aWatch s (nI i)) ∧ G = zF tw ∧ (zFG I J)) := by
            intro d
            induction d with
            | zero =>
              intro c q hd
              exact absurd hd (by omega)
            | succ d ih =>
              intro c q hd hc hq hp
              refine P_iload_n (pc := 42) dX12_watch_42 rfl ?_
              refine P_aload_n (pc := 43) dX12_watch_43 rfl ?_
              refine P_getr (pc := 44) 12 2 dX12_watch_44 fl_X12_13 sh_109 fr_12_2 F_109_2 ?_
              refine P_iconst (pc := 47) (x := nI 0) dX12_watch_47 (by decide) ?_
              refine P_iald (pc := 48) (0) (x := nI (s 111 0)) dX12_watch_48 sh_111 rfl (by omega) (by decide) ((hF.R hR) 111 _ rfl) ?_
              refine P_icmp_geN (pc := 49) (tgt := 79) dX12_watch_49 (by decide) (by omega) (by omega) (fun h49 => ?_) (fun h49 => ?_)
              · refine P_iload_n (pc := 79) dX12_watch_79 rfl ?_
                refine P_if_neN (pc := 80) (tgt := 87) dX12_watch_80 (by decide) (by omega) (fun h80 => ?_) (fun h80 => ?_)
                · refine P_aload_n (pc := 87) dX12_watch_87 rfl ?_
                  refine P_getr (pc := 88) 12 28 dX12_watch_88 fl_X12_59 sh_109 fr_12_28 F_109_28 ?_
                  refine P_iload_n (pc := 91) dX12_watch_91 rfl ?_
                  refine P_iald (pc := 92) (q) (x := nI (zWa s q)) dX12_watch_92 sh_126 rfl (by omega) (by decide) (hwa q (by omega)) ?_
                  refine P_iret (pc := 93) dX12_watch_93 ?_
                  have hc2 : c = s 111 0 := by omega
                  subst hc2
                  exact ⟨by unfold aWatch; rw [if_pos h6, nI_clamp (by omega), hp]; first | (rw [if_pos (by omega)]; rfl) | (rw [if_neg (by omega)]; rfl), rfl, hF⟩
                · refine P_iload_n (pc := 83) dX12_watch_83 rfl ?_
                  refine P_goto (pc := 84) (tgt := 93) dX12_watch_84 (by decide) ?_
                  refine P_iret (pc := 93) dX12_watch_93 ?_
                  have hc2 : c = s 111 0 := by omega
                  subst hc2
                  exact ⟨by unfold aWatch; rw [if_pos h6, nI_clamp (by omega), hp]; first | (rw [if_pos (by omega)]; rfl) | (rw [if_neg (by omega)]; rfl), rfl, hF⟩
              · refine P_aload_n (pc := 52) dX12_watch_52 rfl ?_
                refine P_getr (pc := 53) 12 28 dX12_watch_53 fl_X12_59 sh_109 fr_12_28 F_109_28 ?_
                refine P_iload_n (pc := 56) dX12_watch_56 rfl ?_
                refine P_iald (pc := 57) (c) (x := nI (zWa s c)) dX12_watch_57 sh_126 rfl (by omega) (by decide) (hwa c (by omega)) ?_
                refine P_aload_n (pc := 58) dX12_watch_58 rfl ?_
                refine P_getr (pc := 59) 12 28 dX12_watch_59 fl_X12_59 sh_109 fr_12_28 F_109_28 ?_
                refine P_iload_n (pc := 62) dX12_watch_62 rfl ?_
                refine P_iald (pc := 63) (q) (x := nI (zWa s q)) dX12_watch_63 sh_126 rfl (by omega) (by decide) (hwa q (by omega)) ?_
                refine P_icmp_le (pc := 64) (tgt := 71) dX12_watch_64 (by decide) (fun h64 => ?_) (fun h64 => ?_)
                · refine P_iload_n (pc := 71) dX12_watch_71 rfl ?_
                  refine P_istore_n (pc := 72) dX12_watch_72 (by decide) rfl ?_
                  refine P_iincN (pc := 73) (c := 1) dX12_watch_73 rfl (by decide) (by decide) rfl ?_
                  refine P_goto (pc := 76) (tgt := 42) dX12_watch_76 (by decide) ?_
                  exact ih (c + 1) q (by omega) (by omega) (by omega) (zPkM_f hp (Int32.not_lt.mpr h64))
                · refine P_iload_n (pc := 67) dX12_watch_67 rfl ?_
                  refine P_goto (pc := 68) (tgt := 72) dX12_watch_68 (by decide) ?_
                  refine P_istore_n (pc := 72) dX12_watch_72 (by decide) rfl ?_
                  refine P_iincN (pc := 73) (c := 1) dX12_watch_73 rfl (by decide) (by decide) rfl ?_
                  refine P_goto (pc := 76) (tgt := 42) dX12_watch_76 (by decide) ?_
                  exact ih (c + 1) c (by omega) (by omega) (by omega) (zPkM_t hp (Int32.not_le.mp h64))
          exact loop3 (s 111 0) 1 0 (by omega) (by omega) (by omega) rfl
        · refine P_aload_n (pc := 19) dX12_watch_19 rfl ?_
          refine P_getr (pc := 20) 12 28 dX12_watch_20 fl_X12_59 sh_109 fr_12_28 F_109_28 ?_
          refine P_iload_n (pc := 23) dX12_watch_23 rfl ?_
          refine P_iconst (pc := 24) (x := nI 0) dX12_watch_24 (by decide) ?_
          refine P_iast (pc := 25) (k) dX12_watch_25 sh_126 rfl (by omega) (by decide) ?_
          refine P_iincN (pc := 26) (c := 1) dX12_watch_26 rfl (by decide) (by decide) rfl ?_
          refine P_goto (pc := 29) (tgt := 13) dX12_watch_29 (by decide) ?_
          exact ih (k + 1) _ (by omega) (by omega) (hF1.t) (fun x hx => by
            by_cases e : x = k
            · rw [e, zu_s]
            · rw [zu_n _ _ e]; exact hz x (by omega))
    exact loop 9 0 I (by omega) (by omega) zFG.rf (fun x hx => by omega)
  · refine P_iconst (pc := 9) (x := (-1)) dX12_watch_9 (by decide) ?_
    exact P_iret (pc := 10) dX12_watch_10 (⟨by unfold aWatch; rw [if_neg (by rw [h6]; decide)], rfl, zFG.rf⟩)
set_option maxRecDepth 20000 in
theorem c_kinds {l : Launch} {D : va_G} {tw : Nat} {I : AI} {s : Nat → Nat → Nat} (hA : RefA s I) (hT : RefT s) (hP : RefP s) (hK : RefK s 0) (hS8 : s 109 33 ≤ 8) (hSe : ∀ k, k < s 109 33 → s 128 k < 8 ∧ s 129 k < 8 ∧ s 130 k ≤ 30) {x : Int32} : ZP l D zm_X12_kinds 0 (zent 6 [.ref 109, .int x]) [] I (zF tw) (fun v J G => v = some (aKinds s x) ∧ G = zF tw ∧ (zFG I J)) := by
  have hR := hA.1
  have hP0 := hP.1
  have hnc := hT.2.1
  show ZP _ _ _ _ [some _, some _, none, none, none, none] _ _ _ _
  refine P_aload_n (pc := 0) dX12_kinds_0 rfl ?_
  refine P_iload_n (pc := 1) dX12_kinds_1 rfl ?_
  obtain ⟨_, _, _, k1, rfl, rfl, rfl⟩ := c_isWalker (l := l) (D := D) (tw := tw) (x := x) hR (by omega)
  refine P_callV (pc := 2) (S := []) (As := [_]) k1 dX12_kinds_2 ok_X12_isWalker ml_X12_152 iv_X12_isWalker ⟨by decide, by decide⟩ (zret_b (zix x (s 116 0))) rfl ⟨rfl, by decide⟩ sh_109 ⟨by decide, rfl⟩ (Nat.le_of_ble_eq_true rfl) ?_
  refine P_if_neB (pc := 5) (tgt := 10) dX12_kinds_5 (by decide) (fun h5 => ?_) (fun h5 => ?_)
  · obtain ⟨i, hl_i, rfl⟩ := zix_t h5 (by omega)
    refine P_iconst (pc := 10) (x := nI 0) dX12_kinds_10 (by decide) ?_
    refine P_istore_n (pc := 11) dX12_kinds_11 (by decide) rfl ?_
    refine P_iconst (pc := 12) (x := nI 0) dX12_kinds_12 (by decide) ?_
    refine P_istore_n (pc := 13) dX12_kinds_13 (by decide) rfl ?_
    have hw := hP.2 i hl_i
    have loop : ∀ (d : Nat) (kd : Nat) (J : AI) (v4 : Option Value) (v5 : Option Value), (v4 = none ∨ ∃ x4, v4 = some (.int x4)) → 4 - kd < d → kd ≤ 4 → zFG I J → ZP l D zm_X12_kinds 14 [some (.ref 109), some (.int (nI i)), some (.int (zBits (fun kd => zFit s i (zTrS s 0 kd (s 118 i) (s 119 i) (s 119 i)) (s 109 33)) kd)), some (.int (nI kd)), v4, v5] [] J (zF tw) (fun v J G => v = some (aKinds s (nI i)) ∧ G = zF tw ∧ (zFG I J)) := by
      intro d
      induction d with
      | zero =>
        intro kd J v4 v5 hv4 hd
        exact absurd hd (by omega)
      | succ d ih =>
        intro kd J v4 v5 hv4 hd hkd hF
        refine P_iload_n (pc := 14) dX12_kinds_14 rfl ?_
        refine P_iconst (pc := 15) (x := nI 4) dX12_kinds_15 (by decide) ?_
        refine P_icmp_geN (pc := 16) (tgt := 130) dX12_kinds_16 (by decide) (by omega) (by omega) (fun h16 => ?_) (fun h16 => ?_)
        · refine P_iload_n (pc := 130) dX12_kinds_130 rfl ?_
          refine P_iret (pc := 131) dX12_kinds_131 ?_
          have hk2 : kd = 4 := by omega
          subst hk2
          exact ⟨by unfold aKinds; rw [if_pos h5, nI_clamp (by omega)], rfl, hF⟩
        · refine P_aload_n (pc := 19) dX12_kinds_19 rfl ?_
          refine P_iconst (pc := 20) (x := nI 0) dX12_kinds_20 (by decide) ?_
          refine P_iload_n (pc := 21) dX12_kinds_21 rfl ?_
          refine P_aload_n (pc := 22) dX12_kinds_22 rfl ?_
          refine P_getr (pc := 23) 12 9 dX12_kinds_23 fl_X12_35 sh_109 fr_12_9 F_109_9 ?_
          refine P_iload_n (pc := 26) dX12_kinds_26 rfl ?_
          refine P_iald (pc := 27) (i) (x := nI (s 118 i)) dX12_kinds_27 sh_118 rfl (by omega) (by decide) ((hF.R hR) 118 _ rfl) ?_
          refine P_aload_n (pc := 28) dX12_kinds_28 rfl ?_
          refine P_getr (pc := 29) 12 10 dX12_kinds_29 fl_X12_38 sh_109 fr_12_10 F_109_10 ?_
          refine P_iload_n (pc := 32) dX12_kinds_32 rfl ?_
          refine P_iald (pc := 33) (i) (x := nI (s 119 i)) dX12_kinds_33 sh_119 rfl (by omega) (by decide) ((hF.R hR) 119 _ rfl) ?_
          refine P_aload_n (pc := 34) dX12_kinds_34 rfl ?_
          refine P_getr (pc := 35) 12 10 dX12_kinds_35 fl_X12_38 sh_109 fr_12_10 F_109_10 ?_
          refine P_iload_n (pc := 38) dX12_kinds_38 rfl ?_
          refine P_iald (pc := 39) (i) (x := nI (s 119 i)) dX12_kinds_39 sh_119 rfl (by omega) (by decide) ((hF.R hR) 119 _ rfl) ?_
          obtain ⟨_, K, _, kg, rfl, rfl, hG⟩ := c_go (l := l) (D := D) (tw := tw) (b := 0) (kd := kd) (fm := s 118 i) (a := s 119 i) (to := s 119 i) (hF.R hR) hT (by omega) (by omega) hK.1 (by omega) (by omega) (by omega)
          refine P_callV (pc := 40) (S := []) (As := [_, _, _, _, _]) kg dX12_kinds_40 ok_X12_go ml_X12_189 iv_X12_go ⟨by decide, by decide⟩ zret_v rfl ⟨rfl, by decide⟩ sh_109 ⟨by decide, rfl⟩ (Nat.le_of_ble_eq_true rfl) ?_
          have hinv := zTrS_inv (kd := kd) (aim := s 119 i) (to := s 119 i) hT hK.1 hw.2.1
          have hal := zAt_lt hinv.2.1 hinv.2.2.1
          refine P_iconst (pc := 43) (x := zb true) dX12_kinds_43 (by decide) ?_
          refine P_istore (pc := 44) dX12_kinds_44 (by decide) rfl ?_
          refine P_iconst (pc := 46) (x := nI 0) dX12_kinds_46 (by decide) ?_
          refine P_istore (pc := 47) dX12_kinds_47 (by decide) rfl ?_
          have inner : ∀ (e : Nat) (n : Nat), s 109 33 - n < e → n ≤ s 109 33 → ZP l D zm_X12_kinds 49 [some (.ref 109), some (.int (nI i)), some (.int (zBits (fun kd => zFit s i (zTrS s 0 kd (s 118 i) (s 119 i) (s 119 i)) (s 109 33)) kd)), some (.int (nI kd)), some (.int (zb (zFit s i (zTrS s 0 kd (s 118 i) (s 119 i) (s 119 i)) n))), some (.int (nI n))] [] K (zF tw) (fun v J G => v = some (aKinds s (nI i)) ∧ G = zF tw ∧ (zFG I J)) := by
            intro e
            induction e with
            | zero =>
              intro n he
              exact absurd he (by omega)
            | succ e ih2 =>
              intro n he hn
              refine P_iload (pc := 49) dX12_kinds_49 rfl ?_
              refine P_aload_n (pc := 51) dX12_kinds_51 rfl ?_
              refine P_geti (pc := 52) 12 33 (x := nI (s 109 33)) dX12_kinds_52 fl_X12_135 sh_109 fi_12_33 (by rw [hG.1.2 33 (by omega), hF.2 33 (by omega)]; exact hA.2 33 rfl) ?_
              refine P_icmp_geN (pc := 55) (tgt := 109) dX12_kinds_55 (by decide) (by first | omega | (have := hal (s 130 n); omega)) (by first | omega | (have := hal (s 130 n); omega)) (fun h55 => ?_) (fun h55 => ?_)
              · refine P_iload_n (pc := 109) dX12_kinds_109 rfl ?_
                have hn2 : n = s 109 33 := by omega
                subst hn2
                refine P_iload (pc := 110) dX12_kinds_110 rfl ?_
                refine P_sel1 (pc := 112) (if (fun kd => zFit s i (zTrS s 0 kd (s 118 i) (s 119 i) (s 119 i)) (s 109 33)) kd = true then nI 1 <<< (nI kd &&& 31) else nI 0) 122 (fun k122_112 => ?_) ?_
                · refine P_if_eqB (pc := 112) (tgt := 121) dX12_kinds_112 (by decide) (fun h112 => ?_) (fun h112 => ?_)
                  · refine P_iconst (pc := 121) (x := nI 0) dX12_kinds_121 (by decide) ?_
                    exact k122_112 _ (by rw [if_neg (by show ¬ zFit s i (zTrS s 0 kd (s 118 i) (s 119 i) (s 119 i)) (s 109 33) = true; rw [h112]; decide)])
                  · refine P_iconst (pc := 115) (x := nI 1) dX12_kinds_115 (by decide) ?_
                    refine P_iload_n (pc := 116) dX12_kinds_116 rfl ?_
                    refine P_ishl (pc := 117) dX12_kinds_117 ?_
                    refine P_goto (pc := 118) (tgt := 122) dX12_kinds_118 (by decide) ?_
                    exact k122_112 _ (by rw [if_pos h112])
                · refine P_ior (pc := 122) dX12_kinds_122 ?_
                  refine P_istore_n (pc := 123) dX12_kinds_123 (by decide) rfl ?_
                  refine P_iincN (pc := 124) (c := 1) dX12_kinds_124 rfl (by decide) (by decide) rfl ?_
                  refine P_goto (pc := 127) (tgt := 14) dX12_kinds_127 (by decide) ?_
                  exact ih (kd + 1) K _ _ (Or.inr ⟨_, rfl⟩) (by omega) (by omega) (hF.trans hG.1)
              · refine P_iload (pc := 58) dX12_kinds_58 rfl ?_
                refine P_sel1 (pc := 60) (zb (zFit s i (zTrS s 0 kd (s 118 i) (s 119 i) (s 119 i)) (n + 1))) 101 (fun k101_60 => ?_) ?_
                · refine P_if_eqB (pc := 60) (tgt := 100) dX12_kinds_60 (by decide) (fun h60 => ?_) (fun h60 => ?_)
                  · refine P_iconst (pc := 100) (x := nI 0) dX12_kinds_100 (by decide) ?_
                    exact k101_60 _ (by rw [zFit, h60, Bool.false_and]; rfl)
                  · have hs1 := hSe n (by omega)
                    refine P_aload_n (pc := 63) dX12_kinds_63 rfl ?_
                    refine P_getr (pc := 64) 12 30 dX12_kinds_64 fl_X12_65 sh_109 fr_12_30 F_109_30 ?_
                    refine P_iload (pc := 67) dX12_kinds_67 rfl ?_
                    refine P_iald (pc := 69) (n) (x := nI (s 128 n)) dX12_kinds_69 sh_128 rfl (by first | omega | (have := hal (s 130 n); omega)) (by decide) (((hF.trans hG.1).R hR) 128 _ rfl) ?_
                    refine P_iload_n (pc := 70) dX12_kinds_70 rfl ?_
                    refine P_icmp_neN (pc := 71) (tgt := 96) dX12_kinds_71 (by decide) (by first | omega | (have := hal (s 130 n); omega)) (by first | omega | (have := hal (s 130 n); omega)) (fun h71 => ?_) (fun h71 => ?_)
                    · refine P_iconst (pc := 96) (x := nI 1) dX12_kinds_96 (by decide) ?_
                      refine P_goto (pc := 97) (tgt := 101) dX12_kinds_97 (by decide) ?_
                      exact k101_60 _ (by rw [zFit, h60, decide_eq_true h71, Bool.true_or, Bool.and_true]; rfl)
                    · refine P_aload_n (pc := 74) dX12_kinds_74 rfl ?_
                      refine P_getr (pc := 75) 12 22 dX12_kinds_75 fl_X12_56 sh_109 fr_12_22 F_109_22 ?_
                      refine P_aload_n (pc := 78) dX12_kinds_78 rfl ?_
                      refine P_getr (pc := 79) 12 32 dX12_kinds_79 fl_X12_71 sh_109 fr_12_32 F_109_32 ?_
                      refine P_iload (pc := 82) dX12_kinds_82 rfl ?_
                      refine P_iald (pc := 84) (n) (x := nI (s 130 n)) dX12_kinds_84 sh_130 rfl (by first | omega | (have := hal (s 130 n); omega)) (by decide) (((hF.trans hG.1).R hR) 130 _ rfl) ?_
                      refine P_iald (pc := 85) ((s 130 n)) (x := nI (zAt (zTrS s 0 kd (s 118 i) (s 119 i) (s 119 i)) (s 130 n))) dX12_kinds_85 sh_125 rfl (by first | omega | (have := hal (s 130 n); omega)) (by decide) (hG.2.2.2.2.2.2.1 _ (by omega)) ?_
                      refine P_aload_n (pc := 86) dX12_kinds_86 rfl ?_
                      refine P_getr (pc := 87) 12 31 dX12_kinds_87 fl_X12_68 sh_109 fr_12_31 F_109_31 ?_
                      refine P_iload (pc := 90) dX12_kinds_90 rfl ?_
                      refine P_iald (pc := 92) (n) (x := nI (s 129 n)) dX12_kinds_92 sh_129 rfl (by first | omega | (have := hal (s 130 n); omega)) (by decide) (((hF.trans hG.1).R hR) 129 _ rfl) ?_
                      refine P_icmp_neN (pc := 93) (tgt := 100) dX12_kinds_93 (by decide) (by first | omega | (have := hal (s 130 n); omega)) (by first | omega | (have := hal (s 130 n); omega)) (fun h93 => ?_) (fun h93 => ?_)
                      · refine P_iconst (pc := 100) (x := nI 0) dX12_kinds_100 (by decide) ?_
                        exact k101_60 _ (by rw [zFit, h60, decide_eq_false (fun z => z h71), decide_eq_false h93]; rfl)
                      · refine P_iconst (pc := 96) (x := nI 1) dX12_kinds_96 (by decide) ?_
                        refine P_goto (pc := 97) (tgt := 101) dX12_kinds_97 (by decide) ?_
                        exact k101_60 _ (by rw [zFit, h60, decide_eq_true h93, Bool.or_true, Bool.and_true]; rfl)
                · refine P_istore (pc := 101) dX12_kinds_101 (by decide) rfl ?_
                  refine P_iincN (pc := 103) (c := 1) dX12_kinds_103 rfl (by decide) (by decide) rfl ?_
                  refine P_goto (pc := 106) (tgt := 49) dX12_kinds_106 (by decide) ?_
                  exact ih2 (n + 1) (by omega) (by omega)
          exact inner (s 109 33 + 1) 0 (by omega) (by omega)
    exact loop 5 0 I none none (Or.inl rfl) (by omega) (by omega) zFG.rf
  · refine P_iconst (pc := 8) (x := (-1)) dX12_kinds_8 (by decide) ?_
    exact P_iret (pc := 9) dX12_kinds_9 (⟨by unfold aKinds; rw [if_neg (by rw [h5]; decide)], rfl, zFG.rf⟩)
