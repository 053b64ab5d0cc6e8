theorem zbit_le (m i : Nat) : zbit m i ≤ 1 := by unfold zbit; omega
theorem zTxW_le {s : Nat → Nat → Nat} {b i : Nat} (hT : RefT s) (hP : RefP s) (hK : RefK s b) (hi : i < s 116 0) : zTxW s b i ≤ 810 := (zTrS_inv hT hK.1 (hP.2 i hi).2.1).2.2.2
theorem zPs_le {s : Nat → Nat → Nat} (hT : RefT s) (hP : RefP s) (hK : RefK s 0) (m : Nat) : ∀ n, n ≤ s 116 0 → zPs s m n ≤ 810 * n
  | 0, _ => Nat.le_refl 0
  | n + 1, h => by
    have h1 := zPs_le hT hP hK m n (by omega)
    have h2 := zTxW_le hT hP hK (show n < s 116 0 by omega)
    have h3 : zbit m n * zTxW s 0 n ≤ 810 := Nat.le_trans (Nat.mul_le_mul (zbit_le m n) h2) (by omega)
    show zPs s m n + zbit m n * zTxW s 0 n ≤ 810 * (n + 1)
    omega
set_option maxRecDepth 20000 in
theorem c_paid {l : Launch} {D : va_G} {tw : Nat} {I : AI} {s : Nat → Nat → Nat} (hR : RefV s I) (hT : RefT s) (hP : RefP s) (hK : RefK s 0) {x y : Int32} : ZP l D zm_X12_paid 0 (zent 8 [.ref 109, .int x, .int y]) [] I (zF tw) (fun v J G => v = some (aPaid s x y) ∧ G = zF tw ∧ (zFG I J)) := by
  have hP0 := hP.1
  have hnc := hT.2.1
  show ZP _ _ _ _ [some _, some _, some _, none, none, none, none, none] _ _ _ _
  refine P_iload_n (pc := 0) dX12_paid_0 rfl ?_
  refine P_iconst (pc := 1) (x := nI 0) dX12_paid_1 (by decide) ?_
  refine P_sipush (pc := 2) (x := nI 999) dX12_paid_2 (by decide) ?_
  obtain ⟨_, _, _, k1, rfl, rfl, rfl⟩ := c_inN (l := l) (D := D) (tw := tw) (x := x) (m := 999) (by omega)
  refine P_callS (pc := 5) (S := []) (As := [_, _, _]) k1 dX12_paid_5 ok_X12_in ml_X12_94 is_X12_in ⟨by decide, by decide⟩ (zret_b (zix x (999 + 1))) rfl ⟨rfl, by decide⟩ (Nat.le_of_ble_eq_true rfl) ?_
  refine P_if_eqB (pc := 8) (tgt := 20) dX12_paid_8 (by decide) (fun h8 => ?_) (fun h8 => ?_)
  · refine P_iconst (pc := 20) (x := (-1)) dX12_paid_20 (by decide) ?_
    exact P_iret (pc := 21) dX12_paid_21 (⟨by unfold aPaid; rw [if_neg (by intro z; simp_all)], rfl, zFG.rf⟩)
  · obtain ⟨vv, hl_vv, rfl⟩ := zix_t h8 (by omega)
    refine P_iload_n (pc := 11) dX12_paid_11 rfl ?_
    refine P_iconst (pc := 12) (x := nI 0) dX12_paid_12 (by decide) ?_
    refine P_iconst (pc := 13) (x := nI 1) dX12_paid_13 (by decide) ?_
    obtain ⟨_, _, _, k2, rfl, rfl, rfl⟩ := c_inN (l := l) (D := D) (tw := tw) (x := y) (m := 1) (by omega)
    refine P_callS (pc := 14) (S := []) (As := [_, _, _]) k2 dX12_paid_14 ok_X12_in ml_X12_94 is_X12_in ⟨by decide, by decide⟩ (zret_b (zix y (1 + 1))) rfl ⟨rfl, by decide⟩ (Nat.le_of_ble_eq_true rfl) ?_
    refine P_if_neB (pc := 17) (tgt := 22) dX12_paid_17 (by decide) (fun h17 => ?_) (fun h17 => ?_)
    · obtain ⟨j, hl_j, rfl⟩ := zix_t h17 (by omega)
      refine P_iconst (pc := 22) (x := nI 0) dX12_paid_22 (by decide) ?_
      refine P_istore_n (pc := 23) dX12_paid_23 (by decide) rfl ?_
      refine P_bipush (pc := 24) (x := (-4)) dX12_paid_24 (by decide) ?_
      refine P_istore (pc := 26) dX12_paid_26 (by decide) rfl ?_
      refine P_iconst (pc := 28) (x := nI 0) dX12_paid_28 (by decide) ?_
      refine P_istore (pc := 29) dX12_paid_29 (by decide) rfl ?_
      obtain ⟨N2, hN⟩ : ∃ N2, 2 ^ s 116 0 = N2 := ⟨_, rfl⟩
      have h2p : N2 ≤ 16 := by
        rw [← hN]
        have : s 116 0 = 0 ∨ s 116 0 = 1 ∨ s 116 0 = 2 ∨ s 116 0 = 3 ∨ s 116 0 = 4 := by omega
        rcases this with h | h | h | h | h <;> rw [h] <;> decide
      have hsum : ∀ m, zPs s m (s 116 0) ≤ 810 * s 116 0 := fun m => zPs_le hT hP hK m (s 116 0) (Nat.le_refl _)
      have loop : ∀ (d : Nat) (m n : Nat) (fst : Option Nat) (J : AI) (v6 v7 : Option Value), N2 - m < d → m ≤ N2 → zFG I J → n = zCt (fun m => decide (zPs s m (s 116 0) = vv)) m → fst = zLo (fun m => decide (zPs s m (s 116 0) = vv)) m → ZP l D zm_X12_paid 31 [some (.ref 109), some (.int (nI vv)), some (.int (nI j)), some (.int (nI n)), some (.int (zo (-4) fst)), some (.int (nI m)), v6, v7] [] J (zF tw) (fun v J G => v = some (aPaid s (nI vv) (nI j)) ∧ G = zF tw ∧ (zFG I J)) := by
        intro d
        induction d with
        | zero =>
          intro m n fst J v6 v7 hd
          exact absurd hd (by omega)
        | succ d ih =>
          intro m n fst J v6 v7 hd hm hF hn hfst
          refine P_iload (pc := 31) dX12_paid_31 rfl ?_
          refine P_iconst (pc := 33) (x := nI 1) dX12_paid_33 (by decide) ?_
          refine P_aload_n (pc := 34) dX12_paid_34 rfl ?_
          refine P_getr (pc := 35) 12 7 dX12_paid_35 fl_X12_29 sh_109 fr_12_7 F_109_7 ?_
          refine P_iconst (pc := 38) (x := nI 0) dX12_paid_38 (by decide) ?_
          refine P_iald (pc := 39) (0) (x := nI (s 116 0)) dX12_paid_39 sh_116 rfl (by omega) (by decide) ((hF.R hR) 116 _ rfl) ?_
          refine P_ishl (pc := 40) dX12_paid_40 ?_
          rw [zshl_eq (by omega), hN]
          refine P_icmp_geN (pc := 41) (tgt := 119) dX12_paid_41 (by decide) (by omega) (by omega) (fun h41 => ?_) (fun h41 => ?_)
          · refine P_iload_n (pc := 119) dX12_paid_119 rfl ?_
            refine P_if_neN (pc := 120) (tgt := 127) dX12_paid_120 (by decide) (by omega) (fun h120 => ?_) (fun h120 => ?_)
            · refine P_iload (pc := 127) dX12_paid_127 rfl ?_
              refine P_iret (pc := 129) dX12_paid_129 ?_
              have hm2 : m = N2 := by omega
              subst hm2
              exact ⟨by unfold aPaid; rw [if_pos ⟨h8, h17⟩, nI_clamp (by omega), nI_clamp (by omega), hN]; first | rw [if_pos (by omega), hn] | rw [if_neg (by omega), hfst], rfl, hF⟩
            · refine P_iload_n (pc := 123) dX12_paid_123 rfl ?_
              refine P_goto (pc := 124) (tgt := 129) dX12_paid_124 (by decide) ?_
              refine P_iret (pc := 129) dX12_paid_129 ?_
              have hm2 : m = N2 := by omega
              subst hm2
              exact ⟨by unfold aPaid; rw [if_pos ⟨h8, h17⟩, nI_clamp (by omega), nI_clamp (by omega), hN]; first | rw [if_pos (by omega), hn] | rw [if_neg (by omega), hfst], rfl, hF⟩
          · refine P_iconst (pc := 44) (x := nI 0) dX12_paid_44 (by decide) ?_
            refine P_istore (pc := 45) dX12_paid_45 (by decide) rfl ?_
            refine P_iconst (pc := 47) (x := nI 0) dX12_paid_47 (by decide) ?_
            refine P_istore (pc := 48) dX12_paid_48 (by decide) rfl ?_
            have hnm : n ≤ m := by rw [hn]; exact zCt_le m
            have inner : ∀ (e : Nat) (i : Nat) (J2 : AI), s 116 0 - i < e → i ≤ s 116 0 → zFG I J2 → ZP l D zm_X12_paid 50 [some (.ref 109), some (.int (nI vv)), some (.int (nI j)), some (.int (nI n)), some (.int (zo (-4) fst)), some (.int (nI m)), some (.int (nI (zPs s m i))), some (.int (nI i))] [] J2 (zF tw) (fun v J G => v = some (aPaid s (nI vv) (nI j)) ∧ G = zF tw ∧ (zFG I J)) := by
              intro e
              induction e with
              | zero =>
                intro i J2 he
                exact absurd he (by omega)
              | succ e ih2 =>
                intro i J2 he hi hF
                refine P_iload (pc := 50) dX12_paid_50 rfl ?_
                refine P_aload_n (pc := 52) dX12_paid_52 rfl ?_
                refine P_getr (pc := 53) 12 7 dX12_paid_53 fl_X12_29 sh_109 fr_12_7 F_109_7 ?_
                refine P_iconst (pc := 56) (x := nI 0) dX12_paid_56 (by decide) ?_
                refine P_iald (pc := 57) (0) (x := nI (s 116 0)) dX12_paid_57 sh_116 rfl (by first | omega | (have := hsum m; omega)) (by decide) ((hF.R hR) 116 _ rfl) ?_
                refine P_icmp_geN (pc := 58) (tgt := 91) dX12_paid_58 (by decide) (by first | omega | (have := hsum m; omega)) (by first | omega | (have := hsum m; omega)) (fun h58 => ?_) (fun h58 => ?_)
                · have hi2 : i = s 116 0 := by omega
                  subst hi2
                  refine P_iload (pc := 91) dX12_paid_91 rfl ?_
                  refine P_iload_n (pc := 93) dX12_paid_93 rfl ?_
                  refine P_icmp_neN (pc := 94) (tgt := 113) dX12_paid_94 (by decide) (by first | omega | (have := hsum m; omega)) (by first | omega | (have := hsum m; omega)) (fun h94 => ?_) (fun h94 => ?_)
                  · refine P_iincN (pc := 113) (c := 1) dX12_paid_113 rfl (by decide) (by decide) rfl ?_
                    refine P_goto (pc := 116) (tgt := 31) dX12_paid_116 (by decide) ?_
                    exact ih (m + 1) n fst J2 _ _ (by omega) (by omega) hF (by rw [zCt, ← hn, if_neg (by rw [decide_eq_false h94]; decide), Nat.add_zero]) (by rw [zLo, ← hfst]; cases fst <;> simp [h94])
                  · refine P_iload_n (pc := 97) dX12_paid_97 rfl ?_
                    refine P_if_neN (pc := 98) (tgt := 106) dX12_paid_98 (by decide) (by first | omega | (have := hsum m; omega)) (fun h98 => ?_) (fun h98 => ?_)
                    · refine P_iload (pc := 106) dX12_paid_106 rfl ?_
                      refine P_istore (pc := 108) dX12_paid_108 (by decide) rfl ?_
                      refine P_iincN (pc := 110) (c := 1) dX12_paid_110 rfl (by decide) (by decide) rfl ?_
                      refine P_iincN (pc := 113) (c := 1) dX12_paid_113 rfl (by decide) (by decide) rfl ?_
                      refine P_goto (pc := 116) (tgt := 31) dX12_paid_116 (by decide) ?_
                      exact ih (m + 1) (n + 1) fst J2 _ _ (by omega) (by omega) hF (by rw [zCt, ← hn, if_pos (decide_eq_true h94)]) (by
                        rw [zLo, ← hfst]
                        cases hfs : fst with
                        | none => exact absurd ((zCt_0 (P := (fun m => decide (zPs s m (s 116 0) = vv))) m).mpr (hfst.symm.trans hfs)) (by omega)
                        | some q => rfl)
                    · refine P_iload (pc := 101) dX12_paid_101 rfl ?_
                      refine P_goto (pc := 103) (tgt := 108) dX12_paid_103 (by decide) ?_
                      refine P_istore (pc := 108) dX12_paid_108 (by decide) rfl ?_
                      refine P_iincN (pc := 110) (c := 1) dX12_paid_110 rfl (by decide) (by decide) rfl ?_
                      refine P_iincN (pc := 113) (c := 1) dX12_paid_113 rfl (by decide) (by decide) rfl ?_
                      refine P_goto (pc := 116) (tgt := 31) dX12_paid_116 (by decide) ?_
                      exact ih (m + 1) (n + 1) (some m) J2 _ _ (by omega) (by omega) hF (by rw [zCt, ← hn, if_pos (decide_eq_true h94)]) (by
                        have h0 := (zCt_0 (P := (fun m => decide (zPs s m (s 116 0) = vv))) m).mp (by omega)
                        rw [zLo, h0]
                        simp [h94])
                · refine P_aload_n (pc := 61) dX12_paid_61 rfl ?_
                  refine P_iconst (pc := 62) (x := nI 0) dX12_paid_62 (by decide) ?_
                  refine P_iload (pc := 63) dX12_paid_63 rfl ?_
                  obtain ⟨_, K2, _, kg, rfl, rfl, hG⟩ := c_goAs (l := l) (D := D) (tw := tw) (b := 0) (i := i) (hF.R hR) hT hP (by omega) hK (by omega)
                  refine P_callV (pc := 65) (S := []) (As := [_, _]) kg dX12_paid_65 ok_X12_goAs ml_X12_193 iv_X12_goAs ⟨by decide, by decide⟩ zret_v rfl ⟨rfl, by decide⟩ sh_109 ⟨by decide, rfl⟩ (Nat.le_of_ble_eq_true rfl) ?_
                  refine P_iload (pc := 68) dX12_paid_68 rfl ?_
                  refine P_iload (pc := 70) dX12_paid_70 rfl ?_
                  refine P_iload (pc := 72) dX12_paid_72 rfl ?_
                  refine P_ishr (pc := 74) dX12_paid_74 ?_
                  refine P_iconst (pc := 75) (x := nI 1) dX12_paid_75 (by decide) ?_
                  refine P_iand (pc := 76) dX12_paid_76 ?_
                  rw [zbit_eq (by omega) (by omega)]
                  refine P_aload_n (pc := 77) dX12_paid_77 rfl ?_
                  refine P_geti (pc := 78) 12 26 (x := nI (zTxW s 0 i)) dX12_paid_78 fl_X12_179 sh_109 fi_12_26 (hG.2.2.2.2.1) ?_
                  refine P_imulN (pc := 81) dX12_paid_81 ?_
                  refine P_iaddN (pc := 82) dX12_paid_82 ?_
                  refine P_istore (pc := 83) dX12_paid_83 (by decide) rfl ?_
                  refine P_iincN (pc := 85) (c := 1) dX12_paid_85 rfl (by decide) (by decide) rfl ?_
                  refine P_goto (pc := 88) (tgt := 50) dX12_paid_88 (by decide) ?_
                  exact ih2 (i + 1) K2 (by omega) (by omega) (hF.trans hG.1)
            exact inner (s 116 0 + 1) 0 J (by omega) (by omega) hF
      exact loop (N2 + 1) 0 0 none I none none (by omega) (by omega) zFG.rf rfl rfl
    · refine P_iconst (pc := 20) (x := (-1)) dX12_paid_20 (by decide) ?_
      exact P_iret (pc := 21) dX12_paid_21 (⟨by unfold aPaid; rw [if_neg (by intro z; simp_all)], rfl, zFG.rf⟩)
set_option maxRecDepth 20000 in
theorem c_day {l : Launch} {D : va_G} {tw : Nat} {I : AI} {s : Nat → Nat → Nat} (hR : RefV s I) (hT : RefT s) (hP : RefP s) (hK : RefK s 0) (hn1 : 1 ≤ s 111 0) {x y : Int32} : ZP l D zm_X12_day 0 (zent 10 [.ref 109, .int x, .int y]) [] I (zF tw) (fun v J G => v = some (aDay s x y) ∧ G = zF tw ∧ (zFG I J)) := by
  have hP0 := hP.1
  have hnc := hT.2.1
  show ZP _ _ _ _ [some _, some _, some _, none, none, none, none, none, none, none] _ _ _ _
  refine P_iload_n (pc := 0) dX12_day_0 rfl ?_
  refine P_iconst (pc := 1) (x := nI 0) dX12_day_1 (by decide) ?_
  refine P_sipush (pc := 2) (x := nI 9999) dX12_day_2 (by decide) ?_
  obtain ⟨_, _, _, k1, rfl, rfl, rfl⟩ := c_inN (l := l) (D := D) (tw := tw) (x := x) (m := 9999) (by omega)
  refine P_callS (pc := 5) (S := []) (As := [_, _, _]) k1 dX12_day_5 ok_X12_in ml_X12_94 is_X12_in ⟨by decide, by decide⟩ (zret_b (zix x (9999 + 1))) rfl ⟨rfl, by decide⟩ (Nat.le_of_ble_eq_true rfl) ?_
  refine P_if_eqB (pc := 8) (tgt := 20) dX12_day_8 (by decide) (fun h8 => ?_) (fun h8 => ?_)
  · refine P_iconst (pc := 20) (x := (-1)) dX12_day_20 (by decide) ?_
    exact P_iret (pc := 21) dX12_day_21 (⟨by unfold aDay; rw [if_neg (by intro z; simp_all)], rfl, zFG.rf⟩)
  · obtain ⟨z, hl_z, rfl⟩ := zix_t h8 (by omega)
    refine P_iload_n (pc := 11) dX12_day_11 rfl ?_
    refine P_iconst (pc := 12) (x := nI 0) dX12_day_12 (by decide) ?_
    refine P_iconst (pc := 13) (x := nI 1) dX12_day_13 (by decide) ?_
    obtain ⟨_, _, _, k2, rfl, rfl, rfl⟩ := c_inN (l := l) (D := D) (tw := tw) (x := y) (m := 1) (by omega)
    refine P_callS (pc := 14) (S := []) (As := [_, _, _]) k2 dX12_day_14 ok_X12_in ml_X12_94 is_X12_in ⟨by decide, by decide⟩ (zret_b (zix y (1 + 1))) rfl ⟨rfl, by decide⟩ (Nat.le_of_ble_eq_true rfl) ?_
    refine P_if_neB (pc := 17) (tgt := 22) dX12_day_17 (by decide) (fun h17 => ?_) (fun h17 => ?_)
    · obtain ⟨j, hl_j, rfl⟩ := zix_t h17 (by omega)
      refine P_iconst (pc := 22) (x := nI 0) dX12_day_22 (by decide) ?_
      refine P_istore_n (pc := 23) dX12_day_23 (by decide) rfl ?_
      refine P_iconst (pc := 24) (x := nI 0) dX12_day_24 (by decide) ?_
      refine P_istore (pc := 25) dX12_day_25 (by decide) rfl ?_
      refine P_iconst (pc := 27) (x := nI 0) dX12_day_27 (by decide) ?_
      refine P_istore (pc := 28) dX12_day_28 (by decide) rfl ?_
      have loop : ∀ (d : Nat) (i : Nat) (J : AI) (v6 v7 v8 v9 : Option Value), s 116 0 - i < d → i ≤ s 116 0 → zFG I J → ZP l D zm_X12_day 30 [some (.ref 109), some (.int (nI z)), some (.int (nI j)), some (.int (nI (zSum (fun i => (zDy s z i).2.2.2.1) i))), some (.int (nI (zSum (fun i => if (zDy s z i).2.2.2.2.1 = zDraw z i / 8 % s 111 0 then 1 else 0) i))), some (.int (nI i)), v6, v7, v8, v9] [] J (zF tw) (fun v J G => v = some (aDay s (nI z) (nI j)) ∧ G = zF tw ∧ (zFG I J)) := by
        intro d
        induction d with
        | zero =>
          intro i J v6 v7 v8 v9 hd
          exact absurd hd (by omega)
        | succ d ih =>
          intro i J v6 v7 v8 v9 hd hi hF
          refine P_iload (pc := 30) dX12_day_30 rfl ?_
          refine P_aload_n (pc := 32) dX12_day_32 rfl ?_
          refine P_getr (pc := 33) 12 7 dX12_day_33 fl_X12_29 sh_109 fr_12_7 F_109_7 ?_
          refine P_iconst (pc := 36) (x := nI 0) dX12_day_36 (by decide) ?_
          refine P_iald (pc := 37) (0) (x := nI (s 116 0)) dX12_day_37 sh_116 rfl (by omega) (by decide) ((hF.R hR) 116 _ rfl) ?_
          refine P_icmp_geN (pc := 38) (tgt := 140) dX12_day_38 (by decide) (by omega) (by omega) (fun h38 => ?_) (fun h38 => ?_)
          · refine P_iload_n (pc := 140) dX12_day_140 rfl ?_
            refine P_if_neN (pc := 141) (tgt := 148) dX12_day_141 (by decide) (by omega) (fun h141 => ?_) (fun h141 => ?_)
            · refine P_iload (pc := 148) dX12_day_148 rfl ?_
              refine P_iret (pc := 150) dX12_day_150 ?_
              have hi2 : i = s 116 0 := by omega
              subst hi2
              exact ⟨by unfold aDay; rw [if_pos ⟨h8, h17⟩, nI_clamp (by omega), nI_clamp (by omega)]; first | rw [if_pos (by omega)] | rw [if_neg (by omega)], rfl, hF⟩
            · refine P_iload_n (pc := 144) dX12_day_144 rfl ?_
              refine P_goto (pc := 145) (tgt := 150) dX12_day_145 (by decide) ?_
              refine P_iret (pc := 150) dX12_day_150 ?_
              have hi2 : i = s 116 0 := by omega
              subst hi2
              exact ⟨by unfold aDay; rw [if_pos ⟨h8, h17⟩, nI_clamp (by omega), nI_clamp (by omega)]; first | rw [if_pos (by omega)] | rw [if_neg (by omega)], rfl, hF⟩
          · refine P_ldc2 (pc := 41) dX12_day_41 cl_X12_222 ?_
            refine P_iload_n (pc := 44) dX12_day_44 rfl ?_
            refine P_i2l (pc := 45) dX12_day_45 ?_
            refine P_lmul (pc := 46) dX12_day_46 ?_
            refine P_ldc2 (pc := 47) dX12_day_47 cl_X12_224 ?_
            refine P_iload (pc := 50) dX12_day_50 rfl ?_
            refine P_i2l (pc := 52) dX12_day_52 ?_
            refine P_lmul (pc := 53) dX12_day_53 ?_
            refine P_ladd (pc := 54) dX12_day_54 ?_
            refine P_lconst (pc := 55) (x := 1) dX12_day_55 (by decide) ?_
            refine P_ladd (pc := 56) dX12_day_56 ?_
            refine P_lstore (pc := 57) dX12_day_57 (by decide) rfl ?_
            refine P_lload (pc := 59) dX12_day_59 rfl ?_
            refine P_lload (pc := 61) dX12_day_61 rfl ?_
            refine P_lmul (pc := 63) dX12_day_63 ?_
            refine P_ldc2 (pc := 64) dX12_day_64 cl_X12_226 ?_
            refine P_lrem (pc := 67) dX12_day_67 (by decide) ?_
            refine P_l2i (pc := 68) dX12_day_68 ?_
            rw [zDraw_eq (by omega) (by omega)]
            have hdr : zDraw z i < 65521 := Nat.mod_lt _ (by decide)
            have hd1 : zDraw z i % s 111 0 < s 111 0 := Nat.mod_lt _ (by omega)
            have hd2 : zDraw z i / 8 % s 111 0 < s 111 0 := Nat.mod_lt _ (by omega)
            refine P_istore (pc := 69) dX12_day_69 (by decide) rfl ?_
            refine P_iload (pc := 71) dX12_day_71 rfl ?_
            refine P_bipush (pc := 73) (x := nI 8) dX12_day_73 (by decide) ?_
            refine P_idivN (pc := 75) dX12_day_75 (by omega) (by omega) (by omega) ?_
            refine P_aload_n (pc := 76) dX12_day_76 rfl ?_
            refine P_getr (pc := 77) 12 2 dX12_day_77 fl_X12_13 sh_109 fr_12_2 F_109_2 ?_
            refine P_iconst (pc := 80) (x := nI 0) dX12_day_80 (by decide) ?_
            refine P_iald (pc := 81) (0) (x := nI (s 111 0)) dX12_day_81 sh_111 rfl (by omega) (by decide) ((hF.R hR) 111 _ rfl) ?_
            refine P_iremN (pc := 82) dX12_day_82 (by omega) (by omega) (by omega) ?_
            refine P_istore (pc := 83) dX12_day_83 (by decide) rfl ?_
            refine P_aload_n (pc := 85) dX12_day_85 rfl ?_
            refine P_iconst (pc := 86) (x := nI 0) dX12_day_86 (by decide) ?_
            refine P_aload_n (pc := 87) dX12_day_87 rfl ?_
            refine P_getr (pc := 88) 12 8 dX12_day_88 fl_X12_32 sh_109 fr_12_8 F_109_8 ?_
            refine P_iload (pc := 91) dX12_day_91 rfl ?_
            refine P_iald (pc := 93) (i) (x := nI (s 117 i)) dX12_day_93 sh_117 rfl (by omega) (by decide) ((hF.R hR) 117 _ rfl) ?_
            refine P_iload (pc := 94) dX12_day_94 rfl ?_
            refine P_aload_n (pc := 96) dX12_day_96 rfl ?_
            refine P_getr (pc := 97) 12 2 dX12_day_97 fl_X12_13 sh_109 fr_12_2 F_109_2 ?_
            refine P_iconst (pc := 100) (x := nI 0) dX12_day_100 (by decide) ?_
            refine P_iald (pc := 101) (0) (x := nI (s 111 0)) dX12_day_101 sh_111 rfl (by omega) (by decide) ((hF.R hR) 111 _ rfl) ?_
            refine P_iremN (pc := 102) dX12_day_102 (by omega) (by omega) (by omega) ?_
            refine P_iload (pc := 103) dX12_day_103 rfl ?_
            refine P_iload (pc := 105) dX12_day_105 rfl ?_
            have hw := hP.2 i (by omega)
            obtain ⟨_, K, _, kg, rfl, rfl, hG⟩ := c_go (l := l) (D := D) (tw := tw) (b := 0) (kd := s 117 i) (fm := zDraw z i % s 111 0) (a := zDraw z i / 8 % s 111 0) (to := zDraw z i / 8 % s 111 0) (hF.R hR) hT hw.1 (by omega) hK.1 (by omega) (by omega) (by omega)
            refine P_callV (pc := 107) (S := []) (As := [_, _, _, _, _]) kg dX12_day_107 ok_X12_go ml_X12_189 iv_X12_go ⟨by decide, by decide⟩ zret_v rfl ⟨rfl, by decide⟩ sh_109 ⟨by decide, rfl⟩ (Nat.le_of_ble_eq_true rfl) ?_
            refine P_iload_n (pc := 110) dX12_day_110 rfl ?_
            refine P_aload_n (pc := 111) dX12_day_111 rfl ?_
            refine P_geti (pc := 112) 12 26 (x := nI ((zDy s z i).2.2.2.1)) dX12_day_112 fl_X12_179 sh_109 fi_12_26 (hG.2.2.2.2.1) ?_
            refine P_iaddN (pc := 115) dX12_day_115 ?_
            refine P_istore_n (pc := 116) dX12_day_116 (by decide) rfl ?_
            refine P_iload (pc := 117) dX12_day_117 rfl ?_
            refine P_aload_n (pc := 119) dX12_day_119 rfl ?_
            refine P_geti (pc := 120) 12 27 (x := zb (decide ((zDy s z i).2.2.2.2.1 = zDraw z i / 8 % s 111 0))) dX12_day_120 fl_X12_186 sh_109 fi_12_27 (hG.2.2.2.2.2.1) ?_
            refine P_sel1 (pc := 123) (nI (if (zDy s z i).2.2.2.2.1 = zDraw z i / 8 % s 111 0 then 1 else 0)) 131 (fun k131_123 => ?_) ?_
            · refine P_if_eqB (pc := 123) (tgt := 130) dX12_day_123 (by decide) (fun h123 => ?_) (fun h123 => ?_)
              · refine P_iconst (pc := 130) (x := nI 0) dX12_day_130 (by decide) ?_
                exact k131_123 _ (by rw [if_neg (of_decide_eq_false h123)])
              · refine P_iconst (pc := 126) (x := nI 1) dX12_day_126 (by decide) ?_
                refine P_goto (pc := 127) (tgt := 131) dX12_day_127 (by decide) ?_
                exact k131_123 _ (by rw [if_pos (of_decide_eq_true h123)])
            · refine P_iaddN (pc := 131) dX12_day_131 ?_
              refine P_istore (pc := 132) dX12_day_132 (by decide) rfl ?_
              refine P_iincN (pc := 134) (c := 1) dX12_day_134 rfl (by decide) (by decide) rfl ?_
              refine P_goto (pc := 137) (tgt := 30) dX12_day_137 (by decide) ?_
              exact ih (i + 1) K _ _ _ _ (by omega) (by omega) (hF.trans hG.1)
      exact loop (s 116 0 + 1) 0 I none none none none (by omega) (by omega) zFG.rf
    · refine P_iconst (pc := 20) (x := (-1)) dX12_day_20 (by decide) ?_
      exact P_iret (pc := 21) dX12_day_21 (⟨by unfold aDay; rw [if_neg (by intro z; simp_all)], rfl, zFG.rf⟩)
