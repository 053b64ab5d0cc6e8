set_option maxRecDepth 20000 in
theorem c_readNumbers_3_o {l : Launch} {D : va_G} {tw : Nat} {I : AI} {s : Nat → Nat → Nat} {p : Nat} (hX : CTx (s 110) (s 109 1) I) (hp : I 3 1 = nI p) (hp2 : p ≤ 1000) : ZP_o l D zm_X2_readNumbers 0 (zent 5 [.ref 3, .ref 1, .int (nI 3)]) [] I (zF_o tw) (fun v J G => v = some (zb ((zRk (s 110) (s 109 1) p 44 && (zRk (s 110) (s 109 1) (zn1 s p) 44 && zRk (s 110) (s 109 1) (zn1 s (zn1 s p)) 59)))) ∧ G = zF_o tw ∧ zRr I J ∧ (((zRk (s 110) (s 109 1) p 44 && (zRk (s 110) (s 109 1) (zn1 s p) 44 && zRk (s 110) (s 109 1) (zn1 s (zn1 s p)) 59))) = true → J 4 0 = nI (zv1 s p) ∧ J 4 1 = nI (zv1 s (zn1 s p)) ∧ J 4 2 = nI (zv1 s (zn1 s (zn1 s p))) ∧ J 3 1 = nI (zn1 s (zn1 s (zn1 s p))))) := by
  have z0 := zv1_le s p
  have z1 := zv1_le s (zn1 s p)
  have z2 := zv1_le s (zn1 s (zn1 s p))
  show ZP_o _ _ _ _ [some _, some _, some _, none, none] _ _ _ _
  refine P_iconst_o (pc := 0) (x := nI 0) dX2_readNumbers_0 (by decide) ?_
  refine P_istore_n_o (pc := 1) dX2_readNumbers_1 (by decide) rfl ?_
  refine P_iload_n_o (pc := 2) dX2_readNumbers_2 rfl ?_
  refine P_iload_n_o (pc := 3) dX2_readNumbers_3 rfl ?_
  refine P_icmp_geF_o (pc := 4) (tgt := 85) dX2_readNumbers_4 (by decide) (by decide) ?_
  refine P_iload_n_o (pc := 7) dX2_readNumbers_7 rfl ?_
  refine P_aload_n_o (pc := 8) dX2_readNumbers_8 rfl ?_
  refine P_getr_o (pc := 9) 2 0 dX2_readNumbers_9 fl_X2_9 sh_3_o fr_2_0 F_3_0_o ?_
  refine P_alen_o (pc := 12) (x := nI 3) dX2_readNumbers_12 sh_4_o (by decide) (by decide) rfl ?_
  refine P_icmp_geF_o (pc := 13) (tgt := 85) dX2_readNumbers_13 (by decide) (by decide) ?_
  refine P_aload_n_o (pc := 16) dX2_readNumbers_16 rfl ?_
  refine P_getr_o (pc := 17) 2 0 dX2_readNumbers_17 fl_X2_9 sh_3_o fr_2_0 F_3_0_o ?_
  refine P_iload_n_o (pc := 20) dX2_readNumbers_20 rfl ?_
  refine P_aload_n_o (pc := 21) dX2_readNumbers_21 rfl ?_
  refine P_aload_n_o (pc := 22) dX2_readNumbers_22 rfl ?_
  obtain ⟨_, K0, _, kn0, rfl, rfl, a0, b0, c0⟩ := c_readNumber_o (l := l) (D := D) (tw := tw) (I := I) hX (p := p) hp (by omega)
  refine P_callV_o (pc := 23) (S := [_, _]) (As := [_]) kn0 dX2_readNumbers_23 ok_X2_readNumber ml_X2_45 iv_X2_readNumber ⟨by decide, by decide⟩ (zret_i _) rfl ⟨rfl, by decide⟩ sh_3_o ⟨by decide, rfl⟩ (Nat.le_of_ble_eq_true rfl) ?_
  have rk0 : zRr I K0 := (⟨fun a h3 h4 => a0 a h3, b0⟩ : zRr I K0)
  by_cases hz0 : (zNum (s 110) (s 109 1) p).1 = 0
  · have hv0 : zNv (zNum (s 110) (s 109 1) p) = -4 := if_pos hz0
    rw [hv0]
    refine P_iast_o (pc := 26) (0) dX2_readNumbers_26 sh_4_o rfl (by omega) (by decide) ?_
    refine P_iload_n_o (pc := 27) dX2_readNumbers_27 rfl ?_
    refine P_iconst_o (pc := 28) (x := nI 1) dX2_readNumbers_28 (by decide) ?_
    refine P_iaddN_o (pc := 29) dX2_readNumbers_29 ?_
    refine P_iload_n_o (pc := 30) dX2_readNumbers_30 rfl ?_
    refine P_icmp_geF_o (pc := 31) (tgt := 39) dX2_readNumbers_31 (by decide) (by decide) ?_
    refine P_bipush_o (pc := 34) (x := nI 44) dX2_readNumbers_34 (by decide) ?_
    refine P_goto_o (pc := 36) (tgt := 41) dX2_readNumbers_36 (by decide) ?_
    refine P_istore_o (pc := 41) dX2_readNumbers_41 (by decide) rfl ?_
    refine P_aload_n_o (pc := 43) dX2_readNumbers_43 rfl ?_
    refine P_getr_o (pc := 44) 2 0 dX2_readNumbers_44 fl_X2_9 sh_3_o fr_2_0 F_3_0_o ?_
    refine P_iload_n_o (pc := 47) dX2_readNumbers_47 rfl ?_
    refine P_iald_o (pc := 48) (0) (x := (-4)) dX2_readNumbers_48 sh_4_o rfl (by omega) (by decide) (zu_s _ _ _ _) ?_
    refine P_bipush_o (pc := 49) (x := (-4)) dX2_readNumbers_49 (by decide) ?_
    refine P_icmp_eqT_o (pc := 51) (tgt := 67) dX2_readNumbers_51 (by decide) rfl ?_
    refine P_iconst_o (pc := 67) (x := nI 0) dX2_readNumbers_67 (by decide) ?_
    refine P_iret_o (pc := 68) dX2_readNumbers_68 ?_
    have f0 : zRk (s 110) (s 109 1) p 44 = false := zRk_0 hz0
    have fa : ((zRk (s 110) (s 109 1) p 44 && (zRk (s 110) (s 109 1) (zn1 s p) 44 && zRk (s 110) (s 109 1) (zn1 s (zn1 s p)) 59))) = false := by rw [f0] <;> rfl
    refine ⟨by rw [fa]; rfl, rfl, rk0.u4, fun z => by rw [fa] at z; cases z⟩
  · have hv0 : zNv (zNum (s 110) (s 109 1) p) = nI (zv1 s p) := if_neg hz0
    rw [hv0]
    have hl0 := zNum_le (s 110) (s 109 1) p
    refine P_iast_o (pc := 26) (0) dX2_readNumbers_26 sh_4_o rfl (by omega) (by decide) ?_
    refine P_iload_n_o (pc := 27) dX2_readNumbers_27 rfl ?_
    refine P_iconst_o (pc := 28) (x := nI 1) dX2_readNumbers_28 (by decide) ?_
    refine P_iaddN_o (pc := 29) dX2_readNumbers_29 ?_
    refine P_iload_n_o (pc := 30) dX2_readNumbers_30 rfl ?_
    refine P_icmp_geF_o (pc := 31) (tgt := 39) dX2_readNumbers_31 (by decide) (by decide) ?_
    refine P_bipush_o (pc := 34) (x := nI 44) dX2_readNumbers_34 (by decide) ?_
    refine P_goto_o (pc := 36) (tgt := 41) dX2_readNumbers_36 (by decide) ?_
    refine P_istore_o (pc := 41) dX2_readNumbers_41 (by decide) rfl ?_
    refine P_aload_n_o (pc := 43) dX2_readNumbers_43 rfl ?_
    refine P_getr_o (pc := 44) 2 0 dX2_readNumbers_44 fl_X2_9 sh_3_o fr_2_0 F_3_0_o ?_
    refine P_iload_n_o (pc := 47) dX2_readNumbers_47 rfl ?_
    refine P_iald_o (pc := 48) (0) (x := nI (zv1 s p)) dX2_readNumbers_48 sh_4_o rfl (by omega) (by decide) (zu_s _ _ _ _) ?_
    refine P_bipush_o (pc := 49) (x := (-4)) dX2_readNumbers_49 (by decide) ?_
    refine P_icmp_eqF_o (pc := 51) (tgt := 67) dX2_readNumbers_51 (by decide) (zne4 (by omega)) ?_
    refine P_aload_n_o (pc := 54) dX2_readNumbers_54 rfl ?_
    refine P_aload_n_o (pc := 55) dX2_readNumbers_55 rfl ?_
    refine P_geti_o (pc := 56) 2 1 (x := nI (zNe (s 110) (s 109 1) p)) dX2_readNumbers_56 fl_X2_20 sh_3_o fi_2_1 (c0) ?_
    obtain ⟨_, _, _, kl0, rfl, rfl, rfl⟩ := c_letterAt_o (l := l) (D := D) (tw := tw) (I := zu K0 4 0 (nI (zv1 s p))) (hX.rr rk0.u4) (p := zNe (s 110) (s 109 1) p) (by show p + (zNum (s 110) (s 109 1) p).1 < _; omega)
    refine P_callV_o (pc := 59) (S := []) (As := [_]) kl0 dX2_readNumbers_59 ok_X7_letterAt ml_X2_33 iv_X7_letterAt ⟨by decide, by decide⟩ (zret_i _) rfl ⟨rfl, by decide⟩ sh_1_o ⟨by decide, rfl⟩ (Nat.le_of_ble_eq_true rfl) ?_
    refine P_iload_o (pc := 62) dX2_readNumbers_62 rfl ?_
    refine P_icmp_eq_o (pc := 64) (tgt := 69) dX2_readNumbers_64 (by decide) (fun h64 => ?_) (fun h64 => ?_)
    · have t0 : zRk (s 110) (s 109 1) p 44 = true := zRk_t hz0 ((zo_chr4 (by decide) (fun c e => by have := zCh_lt (fun k hk => (hX.2.2 k hk).2) e; omega)).mp h64)
      refine P_aload_n_o (pc := 69) dX2_readNumbers_69 rfl ?_
      refine P_dup_o (pc := 70) dX2_readNumbers_70 rfl ?_
      refine P_geti_o (pc := 71) 2 1 (x := nI (zNe (s 110) (s 109 1) p)) dX2_readNumbers_71 fl_X2_20 sh_3_o fi_2_1 (c0) ?_
      refine P_iconst_o (pc := 74) (x := nI 1) dX2_readNumbers_74 (by decide) ?_
      refine P_iaddN_o (pc := 75) dX2_readNumbers_75 ?_
      refine P_puti_o (pc := 76) 2 1 dX2_readNumbers_76 fl_X2_20 sh_3_o fp_2_1 rfl rfl ?_
      refine P_iincN_o (pc := 79) (c := 1) dX2_readNumbers_79 rfl (by decide) (by decide) rfl ?_
      refine P_goto_o (pc := 82) (tgt := 2) dX2_readNumbers_82 (by decide) ?_
      obtain ⟨M1, hM1⟩ : ∃ M, M = zu (zu K0 4 0 (nI (zv1 s p))) 3 1 (nI (zn1 s p)) := ⟨_, rfl⟩
      have r1 : zRr I M1 := by rw [hM1]; exact (rk0.u4).u3
      have q1 : M1 3 1 = nI (zn1 s p) := by rw [hM1]; rfl
      have g0_1 : M1 4 0 = nI (zv1 s p) := by rw [hM1]; rfl
      show ZP_o l D zm_X2_readNumbers 2 [some (.ref 3), some (.ref 1), some (.int (nI 3)), some (.int (nI 1)), some (.int (nI 44))] [] (zu (zu K0 4 0 (nI (zv1 s p))) 3 1 (nI (zn1 s p))) (zF_o tw) _
      rw [← hM1]
      refine P_iload_n_o (pc := 2) dX2_readNumbers_2 rfl ?_
      refine P_iload_n_o (pc := 3) dX2_readNumbers_3 rfl ?_
      refine P_icmp_geF_o (pc := 4) (tgt := 85) dX2_readNumbers_4 (by decide) (by decide) ?_
      refine P_iload_n_o (pc := 7) dX2_readNumbers_7 rfl ?_
      refine P_aload_n_o (pc := 8) dX2_readNumbers_8 rfl ?_
      refine P_getr_o (pc := 9) 2 0 dX2_readNumbers_9 fl_X2_9 sh_3_o fr_2_0 F_3_0_o ?_
      refine P_alen_o (pc := 12) (x := nI 3) dX2_readNumbers_12 sh_4_o (by decide) (by decide) rfl ?_
      refine P_icmp_geF_o (pc := 13) (tgt := 85) dX2_readNumbers_13 (by decide) (by decide) ?_
      refine P_aload_n_o (pc := 16) dX2_readNumbers_16 rfl ?_
      refine P_getr_o (pc := 17) 2 0 dX2_readNumbers_17 fl_X2_9 sh_3_o fr_2_0 F_3_0_o ?_
      refine P_iload_n_o (pc := 20) dX2_readNumbers_20 rfl ?_
      refine P_aload_n_o (pc := 21) dX2_readNumbers_21 rfl ?_
      refine P_aload_n_o (pc := 22) dX2_readNumbers_22 rfl ?_
      obtain ⟨_, K1, _, kn1, rfl, rfl, a1, b1, c1⟩ := c_readNumber_o (l := l) (D := D) (tw := tw) (I := M1) (hX.rr r1) (p := (zn1 s p)) q1 (by omega)
      refine P_callV_o (pc := 23) (S := [_, _]) (As := [_]) kn1 dX2_readNumbers_23 ok_X2_readNumber ml_X2_45 iv_X2_readNumber ⟨by decide, by decide⟩ (zret_i _) rfl ⟨rfl, by decide⟩ sh_3_o ⟨by decide, rfl⟩ (Nat.le_of_ble_eq_true rfl) ?_
      have rk1 : zRr I K1 := (r1.trans (⟨fun a h3 h4 => a1 a h3, b1⟩ : zRr M1 K1))
      by_cases hz1 : (zNum (s 110) (s 109 1) (zn1 s p)).1 = 0
      · have hv1 : zNv (zNum (s 110) (s 109 1) (zn1 s p)) = -4 := if_pos hz1
        rw [hv1]
        refine P_iast_o (pc := 26) (1) dX2_readNumbers_26 sh_4_o rfl (by omega) (by decide) ?_
        refine P_iload_n_o (pc := 27) dX2_readNumbers_27 rfl ?_
        refine P_iconst_o (pc := 28) (x := nI 1) dX2_readNumbers_28 (by decide) ?_
        refine P_iaddN_o (pc := 29) dX2_readNumbers_29 ?_
        refine P_iload_n_o (pc := 30) dX2_readNumbers_30 rfl ?_
        refine P_icmp_geF_o (pc := 31) (tgt := 39) dX2_readNumbers_31 (by decide) (by decide) ?_
        refine P_bipush_o (pc := 34) (x := nI 44) dX2_readNumbers_34 (by decide) ?_
        refine P_goto_o (pc := 36) (tgt := 41) dX2_readNumbers_36 (by decide) ?_
        refine P_istore_o (pc := 41) dX2_readNumbers_41 (by decide) rfl ?_
        refine P_aload_n_o (pc := 43) dX2_readNumbers_43 rfl ?_
        refine P_getr_o (pc := 44) 2 0 dX2_readNumbers_44 fl_X2_9 sh_3_o fr_2_0 F_3_0_o ?_
        refine P_iload_n_o (pc := 47) dX2_readNumbers_47 rfl ?_
        refine P_iald_o (pc := 48) (1) (x := (-4)) dX2_readNumbers_48 sh_4_o rfl (by omega) (by decide) (zu_s _ _ _ _) ?_
        refine P_bipush_o (pc := 49) (x := (-4)) dX2_readNumbers_49 (by decide) ?_
        refine P_icmp_eqT_o (pc := 51) (tgt := 67) dX2_readNumbers_51 (by decide) rfl ?_
        refine P_iconst_o (pc := 67) (x := nI 0) dX2_readNumbers_67 (by decide) ?_
        refine P_iret_o (pc := 68) dX2_readNumbers_68 ?_
        have f1 : zRk (s 110) (s 109 1) (zn1 s p) 44 = false := zRk_0 hz1
        have fa : ((zRk (s 110) (s 109 1) p 44 && (zRk (s 110) (s 109 1) (zn1 s p) 44 && zRk (s 110) (s 109 1) (zn1 s (zn1 s p)) 59))) = false := by rw [t0, f1] <;> rfl
        refine ⟨by rw [fa]; rfl, rfl, rk1.u4, fun z => by rw [fa] at z; cases z⟩
      · have hv1 : zNv (zNum (s 110) (s 109 1) (zn1 s p)) = nI (zv1 s (zn1 s p)) := if_neg hz1
        rw [hv1]
        have hl1 := zNum_le (s 110) (s 109 1) (zn1 s p)
        refine P_iast_o (pc := 26) (1) dX2_readNumbers_26 sh_4_o rfl (by omega) (by decide) ?_
        refine P_iload_n_o (pc := 27) dX2_readNumbers_27 rfl ?_
        refine P_iconst_o (pc := 28) (x := nI 1) dX2_readNumbers_28 (by decide) ?_
        refine P_iaddN_o (pc := 29) dX2_readNumbers_29 ?_
        refine P_iload_n_o (pc := 30) dX2_readNumbers_30 rfl ?_
        refine P_icmp_geF_o (pc := 31) (tgt := 39) dX2_readNumbers_31 (by decide) (by decide) ?_
        refine P_bipush_o (pc := 34) (x := nI 44) dX2_readNumbers_34 (by decide) ?_
        refine P_goto_o (pc := 36) (tgt := 41) dX2_readNumbers_36 (by decide) ?_
        refine P_istore_o (pc := 41) dX2_readNumbers_41 (by decide) rfl ?_
        refine P_aload_n_o (pc := 43) dX2_readNumbers_43 rfl ?_
        refine P_getr_o (pc := 44) 2 0 dX2_readNumbers_44 fl_X2_9 sh_3_o fr_2_0 F_3_0_o ?_
        refine P_iload_n_o (pc := 47) dX2_readNumbers_47 rfl ?_
        refine P_iald_o (pc := 48) (1) (x := nI (zv1 s (zn1 s p))) dX2_readNumbers_48 sh_4_o rfl (by omega) (by decide) (zu_s _ _ _ _) ?_
        refine P_bipush_o (pc := 49) (x := (-4)) dX2_readNumbers_49 (by decide) ?_
        refine P_icmp_eqF_o (pc := 51) (tgt := 67) dX2_readNumbers_51 (by decide) (zne4 (by omega)) ?_
        refine P_aload_n_o (pc := 54) dX2_readNumbers_54 rfl ?_
        refine P_aload_n_o (pc := 55) dX2_readNumbers_55 rfl ?_
        refine P_geti_o (pc := 56) 2 1 (x := nI (zNe (s 110) (s 109 1) (zn1 s p))) dX2_readNumbers_56 fl_X2_20 sh_3_o fi_2_1 (c1) ?_
        obtain ⟨_, _, _, kl1, rfl, rfl, rfl⟩ := c_letterAt_o (l := l) (D := D) (tw := tw) (I := zu K1 4 1 (nI (zv1 s (zn1 s p)))) (hX.rr rk1.u4) (p := zNe (s 110) (s 109 1) (zn1 s p)) (by show (zn1 s p) + (zNum (s 110) (s 109 1) (zn1 s p)).1 < _; omega)
        refine P_callV_o (pc := 59) (S := []) (As := [_]) kl1 dX2_readNumbers_59 ok_X7_letterAt ml_X2_33 iv_X7_letterAt ⟨by decide, by decide⟩ (zret_i _) rfl ⟨rfl, by decide⟩ sh_1_o ⟨by decide, rfl⟩ (Nat.le_of_ble_eq_true rfl) ?_
        refine P_iload_o (pc := 62) dX2_readNumbers_62 rfl ?_
        refine P_icmp_eq_o (pc := 64) (tgt := 69) dX2_readNumbers_64 (by decide) (fun h64 => ?_) (fun h64 => ?_)
        · have t1 : zRk (s 110) (s 109 1) (zn1 s p) 44 = true := zRk_t hz1 ((zo_chr4 (by decide) (fun c e => by have := zCh_lt (fun k hk => (hX.2.2 k hk).2) e; omega)).mp h64)
          refine P_aload_n_o (pc := 69) dX2_readNumbers_69 rfl ?_
          refine P_dup_o (pc := 70) dX2_readNumbers_70 rfl ?_
          refine P_geti_o (pc := 71) 2 1 (x := nI (zNe (s 110) (s 109 1) (zn1 s p))) dX2_readNumbers_71 fl_X2_20 sh_3_o fi_2_1 (c1) ?_
          refine P_iconst_o (pc := 74) (x := nI 1) dX2_readNumbers_74 (by decide) ?_
          refine P_iaddN_o (pc := 75) dX2_readNumbers_75 ?_
          refine P_puti_o (pc := 76) 2 1 dX2_readNumbers_76 fl_X2_20 sh_3_o fp_2_1 rfl rfl ?_
          refine P_iincN_o (pc := 79) (c := 1) dX2_readNumbers_79 rfl (by decide) (by decide) rfl ?_
          refine P_goto_o (pc := 82) (tgt := 2) dX2_readNumbers_82 (by decide) ?_
          obtain ⟨M2, hM2⟩ : ∃ M, M = zu (zu K1 4 1 (nI (zv1 s (zn1 s p)))) 3 1 (nI (zn1 s (zn1 s p))) := ⟨_, rfl⟩
          have r2 : zRr I M2 := by rw [hM2]; exact (rk1.u4).u3
          have q2 : M2 3 1 = nI (zn1 s (zn1 s p)) := by rw [hM2]; rfl
          have g0_2 : M2 4 0 = nI (zv1 s p) := by rw [hM2]; show K1 4 0 = _; rw [a1 4 (by decide)]; exact g0_1
          have g1_2 : M2 4 1 = nI (zv1 s (zn1 s p)) := by rw [hM2]; rfl
          show ZP_o l D zm_X2_readNumbers 2 [some (.ref 3), some (.ref 1), some (.int (nI 3)), some (.int (nI 2)), some (.int (nI 44))] [] (zu (zu K1 4 1 (nI (zv1 s (zn1 s p)))) 3 1 (nI (zn1 s (zn1 s p)))) (zF_o tw) _
          rw [← hM2]
          refine P_iload_n_o (pc := 2) dX2_readNumbers_2 rfl ?_
          refine P_iload_n_o (pc := 3) dX2_readNumbers_3 rfl ?_
          refine P_icmp_geF_o (pc := 4) (tgt := 85) dX2_readNumbers_4 (by decide) (by decide) ?_
          refine P_iload_n_o (pc := 7) dX2_readNumbers_7 rfl ?_
          refine P_aload_n_o (pc := 8) dX2_readNumbers_8 rfl ?_
          refine P_getr_o (pc := 9) 2 0 dX2_readNumbers_9 fl_X2_9 sh_3_o fr_2_0 F_3_0_o ?_
          refine P_alen_o (pc := 12) (x := nI 3) dX2_readNumbers_12 sh_4_o (by decide) (by decide) rfl ?_
          refine P_icmp_geF_o (pc := 13) (tgt := 85) dX2_readNumbers_13 (by decide) (by decide) ?_
          refine P_aload_n_o (pc := 16) dX2_readNumbers_16 rfl ?_
          refine P_getr_o (pc := 17) 2 0 dX2_readNumbers_17 fl_X2_9 sh_3_o fr_2_0 F_3_0_o ?_
          refine P_iload_n_o (pc := 20) dX2_readNumbers_20 rfl ?_
          refine P_aload_n_o (pc := 21) dX2_readNumbers_21 rfl ?_
          refine P_aload_n_o (pc := 22) dX2_readNumbers_22 rfl ?_
          obtain ⟨_, K2, _, kn2, rfl, rfl, a2, b2, c2⟩ := c_readNumber_o (l := l) (D := D) (tw := tw) (I := M2) (hX.rr r2) (p := (zn1 s (zn1 s p))) q2 (by omega)
          refine P_callV_o (pc := 23) (S := [_, _]) (As := [_]) kn2 dX2_readNumbers_23 ok_X2_readNumber ml_X2_45 iv_X2_readNumber ⟨by decide, by decide⟩ (zret_i _) rfl ⟨rfl, by decide⟩ sh_3_o ⟨by decide, rfl⟩ (Nat.le_of_ble_eq_true rfl) ?_
          have rk2 : zRr I K2 := (r2.trans (⟨fun a h3 h4 => a2 a h3, b2⟩ : zRr M2 K2))
          by_cases hz2 : (zNum (s 110) (s 109 1) (zn1 s (zn1 s p))).1 = 0
          · have hv2 : zNv (zNum (s 110) (s 109 1) (zn1 s (zn1 s p))) = -4 := if_pos hz2
            rw [hv2]
            refine P_iast_o (pc := 26) (2) dX2_readNumbers_26 sh_4_o rfl (by omega) (by decide) ?_
            refine P_iload_n_o (pc := 27) dX2_readNumbers_27 rfl ?_
            refine P_iconst_o (pc := 28) (x := nI 1) dX2_readNumbers_28 (by decide) ?_
            refine P_iaddN_o (pc := 29) dX2_readNumbers_29 ?_
            refine P_iload_n_o (pc := 30) dX2_readNumbers_30 rfl ?_
            refine P_icmp_geT_o (pc := 31) (tgt := 39) dX2_readNumbers_31 (by decide) (by decide) ?_
            refine P_bipush_o (pc := 39) (x := nI 59) dX2_readNumbers_39 (by decide) ?_
            refine P_istore_o (pc := 41) dX2_readNumbers_41 (by decide) rfl ?_
            refine P_aload_n_o (pc := 43) dX2_readNumbers_43 rfl ?_
            refine P_getr_o (pc := 44) 2 0 dX2_readNumbers_44 fl_X2_9 sh_3_o fr_2_0 F_3_0_o ?_
            refine P_iload_n_o (pc := 47) dX2_readNumbers_47 rfl ?_
            refine P_iald_o (pc := 48) (2) (x := (-4)) dX2_readNumbers_48 sh_4_o rfl (by omega) (by decide) (zu_s _ _ _ _) ?_
            refine P_bipush_o (pc := 49) (x := (-4)) dX2_readNumbers_49 (by decide) ?_
            refine P_icmp_eqT_o (pc := 51) (tgt := 67) dX2_readNumbers_51 (by decide) rfl ?_
            refine P_iconst_o (pc := 67) (x := nI 0) dX2_readNumbers_67 (by decide) ?_
            refine P_iret_o (pc := 68) dX2_readNumbers_68 ?_
            have f2 : zRk (s 110) (s 109 1) (zn1 s (zn1 s p)) 59 = false := zRk_0 hz2
            have fa : ((zRk (s 110) (s 109 1) p 44 && (zRk (s 110) (s 109 1) (zn1 s p) 44 && zRk (s 110) (s 109 1) (zn1 s (zn1 s p)) 59))) = false := by rw [t0, t1, f2] <;> rfl
            refine ⟨by rw [fa]; rfl, rfl, rk2.u4, fun z => by rw [fa] at z; cases z⟩
          · have hv2 : zNv (zNum (s 110) (s 109 1) (zn1 s (zn1 s p))) = nI (zv1 s (zn1 s (zn1 s p))) := if_neg hz2
            rw [hv2]
            have hl2 := zNum_le (s 110) (s 109 1) (zn1 s (zn1 s p))
            refine P_iast_o (pc := 26) (2) dX2_readNumbers_26 sh_4_o rfl (by omega) (by decide) ?_
            refine P_iload_n_o (pc := 27) dX2_readNumbers_27 rfl ?_
            refine P_iconst_o (pc := 28) (x := nI 1) dX2_readNumbers_28 (by decide) ?_
            refine P_iaddN_o (pc := 29) dX2_readNumbers_29 ?_
            refine P_iload_n_o (pc := 30) dX2_readNumbers_30 rfl ?_
            refine P_icmp_geT_o (pc := 31) (tgt := 39) dX2_readNumbers_31 (by decide) (by decide) ?_
            refine P_bipush_o (pc := 39) (x := nI 59) dX2_readNumbers_39 (by decide) ?_
            refine P_istore_o (pc := 41) dX2_readNumbers_41 (by decide) rfl ?_
            refine P_aload_n_o (pc := 43) dX2_readNumbers_43 rfl ?_
            refine P_getr_o (pc := 44) 2 0 dX2_readNumbers_44 fl_X2_9 sh_3_o fr_2_0 F_3_0_o ?_
            refine P_iload_n_o (pc := 47) dX2_readNumbers_47 rfl ?_
            refine P_iald_o (pc := 48) (2) (x := nI (zv1 s (zn1 s (zn1 s p)))) dX2_readNumbers_48 sh_4_o rfl (by omega) (by decide) (zu_s _ _ _ _) ?_
            refine P_bipush_o (pc := 49) (x := (-4)) dX2_readNumbers_49 (by decide) ?_
            refine P_icmp_eqF_o (pc := 51) (tgt := 67) dX2_readNumbers_51 (by decide) (zne4 (by omega)) ?_
            refine P_aload_n_o (pc := 54) dX2_readNumbers_54 rfl ?_
            refine P_aload_n_o (pc := 55) dX2_readNumbers_55 rfl ?_
            refine P_geti_o (pc := 56) 2 1 (x := nI (zNe (s 110) (s 109 1) (zn1 s (zn1 s p)))) dX2_readNumbers_56 fl_X2_20 sh_3_o fi_2_1 (c2) ?_
            obtain ⟨_, _, _, kl2, rfl, rfl, rfl⟩ := c_letterAt_o (l := l) (D := D) (tw := tw) (I := zu K2 4 2 (nI (zv1 s (zn1 s (zn1 s p))))) (hX.rr rk2.u4) (p := zNe (s 110) (s 109 1) (zn1 s (zn1 s p))) (by show (zn1 s (zn1 s p)) + (zNum (s 110) (s 109 1) (zn1 s (zn1 s p))).1 < _; omega)
            refine P_callV_o (pc := 59) (S := []) (As := [_]) kl2 dX2_readNumbers_59 ok_X7_letterAt ml_X2_33 iv_X7_letterAt ⟨by decide, by decide⟩ (zret_i _) rfl ⟨rfl, by decide⟩ sh_1_o ⟨by decide, rfl⟩ (Nat.le_of_ble_eq_true rfl) ?_
            refine P_iload_o (pc := 62) dX2_readNumbers_62 rfl ?_
            refine P_icmp_eq_o (pc := 64) (tgt := 69) dX2_readNumbers_64 (by decide) (fun h64 => ?_) (fun h64 => ?_)
            · have t2 : zRk (s 110) (s 109 1) (zn1 s (zn1 s p)) 59 = true := zRk_t hz2 ((zo_chr4 (by decide) (fun c e => by have := zCh_lt (fun k hk => (hX.2.2 k hk).2) e; omega)).mp h64)
              refine P_aload_n_o (pc := 69) dX2_readNumbers_69 rfl ?_
              refine P_dup_o (pc := 70) dX2_readNumbers_70 rfl ?_
              refine P_geti_o (pc := 71) 2 1 (x := nI (zNe (s 110) (s 109 1) (zn1 s (zn1 s p)))) dX2_readNumbers_71 fl_X2_20 sh_3_o fi_2_1 (c2) ?_
              refine P_iconst_o (pc := 74) (x := nI 1) dX2_readNumbers_74 (by decide) ?_
              refine P_iaddN_o (pc := 75) dX2_readNumbers_75 ?_
              refine P_puti_o (pc := 76) 2 1 dX2_readNumbers_76 fl_X2_20 sh_3_o fp_2_1 rfl rfl ?_
              refine P_iincN_o (pc := 79) (c := 1) dX2_readNumbers_79 rfl (by decide) (by decide) rfl ?_
              refine P_goto_o (pc := 82) (tgt := 2) dX2_readNumbers_82 (by decide) ?_
              obtain ⟨M3, hM3⟩ : ∃ M, M = zu (zu K2 4 2 (nI (zv1 s (zn1 s (zn1 s p))))) 3 1 (nI (zn1 s (zn1 s (zn1 s p)))) := ⟨_, rfl⟩
              have r3 : zRr I M3 := by rw [hM3]; exact (rk2.u4).u3
              have q3 : M3 3 1 = nI (zn1 s (zn1 s (zn1 s p))) := by rw [hM3]; rfl
              have g0_3 : M3 4 0 = nI (zv1 s p) := by rw [hM3]; show K2 4 0 = _; rw [a2 4 (by decide)]; exact g0_2
              have g1_3 : M3 4 1 = nI (zv1 s (zn1 s p)) := by rw [hM3]; show K2 4 1 = _; rw [a2 4 (by decide)]; exact g1_2
              have g2_3 : M3 4 2 = nI (zv1 s (zn1 s (zn1 s p))) := by rw [hM3]; rfl
              show ZP_o l D zm_X2_readNumbers 2 [some (.ref 3), some (.ref 1), some (.int (nI 3)), some (.int (nI 3)), some (.int (nI 59))] [] (zu (zu K2 4 2 (nI (zv1 s (zn1 s (zn1 s p))))) 3 1 (nI (zn1 s (zn1 s (zn1 s p))))) (zF_o tw) _
              rw [← hM3]
              refine P_iload_n_o (pc := 2) dX2_readNumbers_2 rfl ?_
              refine P_iload_n_o (pc := 3) dX2_readNumbers_3 rfl ?_
              refine P_icmp_geT_o (pc := 4) (tgt := 85) dX2_readNumbers_4 (by decide) (by decide) ?_
              refine P_iconst_o (pc := 85) (x := nI 1) dX2_readNumbers_85 (by decide) ?_
              refine P_iret_o (pc := 86) dX2_readNumbers_86 ?_
              refine ⟨by rw [t0, t1, t2]; rfl, rfl, r3, fun _ => ⟨g0_3, g1_3, g2_3, q3⟩⟩
            · refine P_iconst_o (pc := 67) (x := nI 0) dX2_readNumbers_67 (by decide) ?_
              refine P_iret_o (pc := 68) dX2_readNumbers_68 ?_
              have f2 : zRk (s 110) (s 109 1) (zn1 s (zn1 s p)) 59 = false := zRk_f (fun z => h64 ((zo_chr4 (by decide) (fun c e => by have := zCh_lt (fun k hk => (hX.2.2 k hk).2) e; omega)).mpr z))
              have fa : ((zRk (s 110) (s 109 1) p 44 && (zRk (s 110) (s 109 1) (zn1 s p) 44 && zRk (s 110) (s 109 1) (zn1 s (zn1 s p)) 59))) = false := by rw [t0, t1, f2] <;> rfl
              refine ⟨by rw [fa]; rfl, rfl, rk2.u4, fun z => by rw [fa] at z; cases z⟩
        · refine P_iconst_o (pc := 67) (x := nI 0) dX2_readNumbers_67 (by decide) ?_
          refine P_iret_o (pc := 68) dX2_readNumbers_68 ?_
          have f1 : zRk (s 110) (s 109 1) (zn1 s p) 44 = false := zRk_f (fun z => h64 ((zo_chr4 (by decide) (fun c e => by have := zCh_lt (fun k hk => (hX.2.2 k hk).2) e; omega)).mpr z))
          have fa : ((zRk (s 110) (s 109 1) p 44 && (zRk (s 110) (s 109 1) (zn1 s p) 44 && zRk (s 110) (s 109 1) (zn1 s (zn1 s p)) 59))) = false := by rw [t0, f1] <;> rfl
          refine ⟨by rw [fa]; rfl, rfl, rk1.u4, fun z => by rw [fa] at z; cases z⟩
    · refine P_iconst_o (pc := 67) (x := nI 0) dX2_readNumbers_67 (by decide) ?_
      refine P_iret_o (pc := 68) dX2_readNumbers_68 ?_
      have f0 : zRk (s 110) (s 109 1) p 44 = false := zRk_f (fun z => h64 ((zo_chr4 (by decide) (fun c e => by have := zCh_lt (fun k hk => (hX.2.2 k hk).2) e; omega)).mpr z))
      have fa : ((zRk (s 110) (s 109 1) p 44 && (zRk (s 110) (s 109 1) (zn1 s p) 44 && zRk (s 110) (s 109 1) (zn1 s (zn1 s p)) 59))) = false := by rw [f0] <;> rfl
      refine ⟨by rw [fa]; rfl, rfl, rk0.u4, fun z => by rw [fa] at z; cases z⟩
theorem c_isWithinN_o {l : Launch} {D : va_G} {tw : Nat} {I : AI} {j n : Nat} (hj : j < 2 ^ 31) (hn : n < 2 ^ 31) : ZP_o l D zm_X11_isWithin 0 (zent 2 [.int (nI j), .int (nI n)]) [] I (zF_o tw) (fun v J G => v = some (zb (decide (j < n))) ∧ I = J ∧ G = zF_o tw) := by
  rw [← zix_n hj]
  exact c_isWithin_o hn
set_option maxRecDepth 20000 in
theorem c_acceptCorners_36_o {l : Launch} {D : va_G} {tw : Nat} {I : AI} {s : Nat → Nat → Nat} {f : Bool} (hD : DrC s I 36) (hO : DrF s f) {n0 : Nat} (hn0 : I 4 0 = nI n0) (hb0 : n0 ≤ 99) : ZP_o l D zm_X2_acceptCorners 0 (zent 2 [.ref 3, .ref 36]) [] I (zF_o tw) (fun v J G => v = some (zb (decide (1 ≤ n0 ∧ n0 ≤ 8))) ∧ G = zF_o tw ∧ zDf 36 I J ∧ ((1 ≤ n0 ∧ n0 ≤ 8) → DrC (dC s n0) J 36)) := by
  obtain ⟨⟨d1, d2, d3, d4, d5⟩, dS1, dG1, dW1, dR1, dF1⟩ := hO
  show ZP_o _ _ _ _ [some _, some _] _ _ _ _
  refine P_aload_n_o (pc := 0) dX2_acceptCorners_0 rfl ?_
  refine P_getr_o (pc := 1) 2 0 dX2_acceptCorners_1 fl_X2_9 sh_3_o fr_2_0 F_3_0_o ?_
  refine P_iconst_o (pc := 4) (x := nI 0) dX2_acceptCorners_4 (by decide) ?_
  refine P_iald_o (pc := 5) (0) (x := nI (n0)) dX2_acceptCorners_5 sh_4_o rfl (by omega) (by decide) (hn0) ?_
  refine P_iconst_o (pc := 6) (x := nI 1) dX2_acceptCorners_6 (by decide) ?_
  refine P_icmp_ltN_o (pc := 7) (tgt := 21) dX2_acceptCorners_7 (by decide) (by omega) (by omega) (fun h7 => ?_) (fun h7 => ?_)
  · refine P_iconst_o (pc := 21) (x := nI 0) dX2_acceptCorners_21 (by decide) ?_
    refine P_iret_o (pc := 22) dX2_acceptCorners_22 ?_
    exact ⟨congrArg some (zb_f (by omega)), rfl, zDf.rf, fun z => by omega⟩
  · refine P_aload_n_o (pc := 10) dX2_acceptCorners_10 rfl ?_
    refine P_getr_o (pc := 11) 2 0 dX2_acceptCorners_11 fl_X2_9 sh_3_o fr_2_0 F_3_0_o ?_
    refine P_iconst_o (pc := 14) (x := nI 0) dX2_acceptCorners_14 (by decide) ?_
    refine P_iald_o (pc := 15) (0) (x := nI (n0)) dX2_acceptCorners_15 sh_4_o rfl (by omega) (by decide) (hn0) ?_
    refine P_bipush_o (pc := 16) (x := nI 8) dX2_acceptCorners_16 (by decide) ?_
    refine P_icmp_leN_o (pc := 18) (tgt := 23) dX2_acceptCorners_18 (by decide) (by omega) (by omega) (fun h18 => ?_) (fun h18 => ?_)
    · refine P_aload_n_o (pc := 23) dX2_acceptCorners_23 rfl ?_
      refine P_getr_o (pc := 24) 8 0 dX2_acceptCorners_24 fl_X2_65 sh_36_o fr_8_0 F_36_0_o ?_
      refine P_aload_n_o (pc := 27) dX2_acceptCorners_27 rfl ?_
      refine P_getr_o (pc := 28) 2 0 dX2_acceptCorners_28 fl_X2_9 sh_3_o fr_2_0 F_3_0_o ?_
      refine P_iconst_o (pc := 31) (x := nI 0) dX2_acceptCorners_31 (by decide) ?_
      refine P_iald_o (pc := 32) (0) (x := nI (n0)) dX2_acceptCorners_32 sh_4_o rfl (by omega) (by decide) (hn0) ?_
      refine P_puti_o (pc := 33) 6 0 dX2_acceptCorners_33 fl_X2_69 sh_37_o fp_6_0 rfl rfl ?_
      refine P_iconst_o (pc := 36) (x := nI 1) dX2_acceptCorners_36 (by decide) ?_
      refine P_iret_o (pc := 37) dX2_acceptCorners_37 ?_
      exact ⟨congrArg some (zb_t (by omega)), rfl, zDf.rf.u (by decide), fun _ => hD.C⟩
    · refine P_iconst_o (pc := 21) (x := nI 0) dX2_acceptCorners_21 (by decide) ?_
      refine P_iret_o (pc := 22) dX2_acceptCorners_22 ?_
      exact ⟨congrArg some (zb_f (by omega)), rfl, zDf.rf, fun z => by omega⟩
set_option maxRecDepth 20000 in
theorem c_acceptRates_36_o {l : Launch} {D : va_G} {tw : Nat} {I : AI} {s : Nat → Nat → Nat} {f : Bool} (hD : DrC s I 36) (hO : DrF s f) {n0 n1 n2 : Nat} (hn0 : I 4 0 = nI n0) (hn1 : I 4 1 = nI n1) (hn2 : I 4 2 = nI n2) (hb0 : n0 ≤ 99) (hb1 : n1 ≤ 99) (hb2 : n2 ≤ 99) : ZP_o l D zm_X2_acceptRates 0 (zent 2 [.ref 3, .ref 36]) [] I (zF_o tw) (fun v J G => v = some (zb (decide (n0 < 10 ∧ n1 < 10 ∧ n2 < 10))) ∧ G = zF_o tw ∧ zDf 36 I J ∧ ((n0 < 10 ∧ n1 < 10 ∧ n2 < 10) → DrC (dR s n0 n1 n2) J 36)) := by
  obtain ⟨⟨d1, d2, d3, d4, d5⟩, dS1, dG1, dW1, dR1, dF1⟩ := hO
  show ZP_o _ _ _ _ [some _, some _] _ _ _ _
  refine P_aload_n_o (pc := 0) dX2_acceptRates_0 rfl ?_
  refine P_getr_o (pc := 1) 2 0 dX2_acceptRates_1 fl_X2_9 sh_3_o fr_2_0 F_3_0_o ?_
  refine P_iconst_o (pc := 4) (x := nI 0) dX2_acceptRates_4 (by decide) ?_
  refine P_iald_o (pc := 5) (0) (x := nI (n0)) dX2_acceptRates_5 sh_4_o rfl (by omega) (by decide) (hn0) ?_
  refine P_bipush_o (pc := 6) (x := nI 10) dX2_acceptRates_6 (by decide) ?_
  obtain ⟨_, _, _, ki1, rfl, rfl, rfl⟩ := c_isWithinN_o (l := l) (D := D) (tw := tw) (I := I) (j := (n0)) (n := 10) (by omega) (by omega)
  refine P_callS_o (pc := 8) (S := []) (As := [_, _]) ki1 dX2_acceptRates_8 ok_X11_isWithin ml_X2_77 is_X11_isWithin ⟨by decide, by decide⟩ (zret_b (decide ((n0) < 10))) rfl ⟨rfl, by decide⟩ (Nat.le_of_ble_eq_true rfl) ?_
  refine P_if_eqB_o (pc := 11) (tgt := 42) dX2_acceptRates_11 (by decide) (fun h11 => ?_) (fun h11 => ?_)
  · refine P_iconst_o (pc := 42) (x := nI 0) dX2_acceptRates_42 (by decide) ?_
    refine P_iret_o (pc := 43) dX2_acceptRates_43 ?_
    have g11 := of_decide_eq_false h11
    exact ⟨congrArg some (zb_f (by omega)), rfl, zDf.rf, fun z => by omega⟩
  · refine P_aload_n_o (pc := 14) dX2_acceptRates_14 rfl ?_
    refine P_getr_o (pc := 15) 2 0 dX2_acceptRates_15 fl_X2_9 sh_3_o fr_2_0 F_3_0_o ?_
    refine P_iconst_o (pc := 18) (x := nI 1) dX2_acceptRates_18 (by decide) ?_
    refine P_iald_o (pc := 19) (1) (x := nI (n1)) dX2_acceptRates_19 sh_4_o rfl (by omega) (by decide) (hn1) ?_
    refine P_bipush_o (pc := 20) (x := nI 10) dX2_acceptRates_20 (by decide) ?_
    obtain ⟨_, _, _, ki2, rfl, rfl, rfl⟩ := c_isWithinN_o (l := l) (D := D) (tw := tw) (I := I) (j := (n1)) (n := 10) (by omega) (by omega)
    refine P_callS_o (pc := 22) (S := []) (As := [_, _]) ki2 dX2_acceptRates_22 ok_X11_isWithin ml_X2_77 is_X11_isWithin ⟨by decide, by decide⟩ (zret_b (decide ((n1) < 10))) rfl ⟨rfl, by decide⟩ (Nat.le_of_ble_eq_true rfl) ?_
    refine P_if_eqB_o (pc := 25) (tgt := 42) dX2_acceptRates_25 (by decide) (fun h25 => ?_) (fun h25 => ?_)
    · refine P_iconst_o (pc := 42) (x := nI 0) dX2_acceptRates_42 (by decide) ?_
      refine P_iret_o (pc := 43) dX2_acceptRates_43 ?_
      have g11 := of_decide_eq_true h11
      have g25 := of_decide_eq_false h25
      exact ⟨congrArg some (zb_f (by omega)), rfl, zDf.rf, fun z => by omega⟩
    · refine P_aload_n_o (pc := 28) dX2_acceptRates_28 rfl ?_
      refine P_getr_o (pc := 29) 2 0 dX2_acceptRates_29 fl_X2_9 sh_3_o fr_2_0 F_3_0_o ?_
      refine P_iconst_o (pc := 32) (x := nI 2) dX2_acceptRates_32 (by decide) ?_
      refine P_iald_o (pc := 33) (2) (x := nI (n2)) dX2_acceptRates_33 sh_4_o rfl (by omega) (by decide) (hn2) ?_
      refine P_bipush_o (pc := 34) (x := nI 10) dX2_acceptRates_34 (by decide) ?_
      obtain ⟨_, _, _, ki3, rfl, rfl, rfl⟩ := c_isWithinN_o (l := l) (D := D) (tw := tw) (I := I) (j := (n2)) (n := 10) (by omega) (by omega)
      refine P_callS_o (pc := 36) (S := []) (As := [_, _]) ki3 dX2_acceptRates_36 ok_X11_isWithin ml_X2_77 is_X11_isWithin ⟨by decide, by decide⟩ (zret_b (decide ((n2) < 10))) rfl ⟨rfl, by decide⟩ (Nat.le_of_ble_eq_true rfl) ?_
      refine P_if_neB_o (pc := 39) (tgt := 44) dX2_acceptRates_39 (by decide) (fun h39 => ?_) (fun h39 => ?_)
      · refine P_aload_n_o (pc := 44) dX2_acceptRates_44 rfl ?_
        refine P_aload_n_o (pc := 45) dX2_acceptRates_45 rfl ?_
        refine P_getr_o (pc := 46) 2 0 dX2_acceptRates_46 fl_X2_9 sh_3_o fr_2_0 F_3_0_o ?_
        refine P_iconst_o (pc := 49) (x := nI 0) dX2_acceptRates_49 (by decide) ?_
        refine P_iald_o (pc := 50) (0) (x := nI (n0)) dX2_acceptRates_50 sh_4_o rfl (by omega) (by decide) (hn0) ?_
        refine P_puti_o (pc := 51) 8 3 dX2_acceptRates_51 fl_X2_108 sh_36_o fp_8_3 rfl rfl ?_
        refine P_aload_n_o (pc := 54) dX2_acceptRates_54 rfl ?_
        refine P_aload_n_o (pc := 55) dX2_acceptRates_55 rfl ?_
        refine P_getr_o (pc := 56) 2 0 dX2_acceptRates_56 fl_X2_9 sh_3_o fr_2_0 F_3_0_o ?_
        refine P_iconst_o (pc := 59) (x := nI 1) dX2_acceptRates_59 (by decide) ?_
        refine P_iald_o (pc := 60) (1) (x := nI (n1)) dX2_acceptRates_60 sh_4_o rfl (by omega) (by decide) (hn1) ?_
        refine P_puti_o (pc := 61) 8 4 dX2_acceptRates_61 fl_X2_111 sh_36_o fp_8_4 rfl rfl ?_
        refine P_aload_n_o (pc := 64) dX2_acceptRates_64 rfl ?_
        refine P_aload_n_o (pc := 65) dX2_acceptRates_65 rfl ?_
        refine P_getr_o (pc := 66) 2 0 dX2_acceptRates_66 fl_X2_9 sh_3_o fr_2_0 F_3_0_o ?_
        refine P_iconst_o (pc := 69) (x := nI 2) dX2_acceptRates_69 (by decide) ?_
        refine P_iald_o (pc := 70) (2) (x := nI (n2)) dX2_acceptRates_70 sh_4_o rfl (by omega) (by decide) (hn2) ?_
        refine P_puti_o (pc := 71) 8 5 dX2_acceptRates_71 fl_X2_114 sh_36_o fp_8_5 rfl rfl ?_
        refine P_iconst_o (pc := 74) (x := nI 1) dX2_acceptRates_74 (by decide) ?_
        refine P_iret_o (pc := 75) dX2_acceptRates_75 ?_
        have g11 := of_decide_eq_true h11
        have g25 := of_decide_eq_true h25
        have g39 := of_decide_eq_true h39
        exact ⟨congrArg some (zb_t (by omega)), rfl, ((zDf.rf.u (by decide)).u (by decide)).u (by decide), fun _ => hD.R⟩
      · refine P_iconst_o (pc := 42) (x := nI 0) dX2_acceptRates_42 (by decide) ?_
        refine P_iret_o (pc := 43) dX2_acceptRates_43 ?_
        have g11 := of_decide_eq_true h11
        have g25 := of_decide_eq_true h25
        have g39 := of_decide_eq_false h39
        exact ⟨congrArg some (zb_f (by omega)), rfl, zDf.rf, fun z => by omega⟩
set_option maxRecDepth 20000 in
theorem c_acceptSign_36_o {l : Launch} {D : va_G} {tw : Nat} {I : AI} {s : Nat → Nat → Nat} {f : Bool} (hD : DrC s I 36) (hO : DrF s f) {n0 n1 n2 : Nat} (hn0 : I 4 0 = nI n0) (hn1 : I 4 1 = nI n1) (hn2 : I 4 2 = nI n2) (hb0 : n0 ≤ 99) (hb1 : n1 ≤ 99) (hb2 : n2 ≤ 99) : ZP_o l D zm_X2_acceptSign 0 (zent 3 [.ref 3, .ref 36]) [] I (zF_o tw) (fun v J G => v = some (zb (decide (s 109 13 < 8 ∧ n0 < s 111 1 ∧ n1 < s 111 1 ∧ n2 < s 111 1))) ∧ G = zF_o tw ∧ zDf 36 I J ∧ ((s 109 13 < 8 ∧ n0 < s 111 1 ∧ n1 < s 111 1 ∧ n2 < s 111 1) → DrC (dG s n0 n1 n2) J 36)) := by
  obtain ⟨⟨d1, d2, d3, d4, d5⟩, dS1, dG1, dW1, dR1, dF1⟩ := hO
  show ZP_o _ _ _ _ [some _, some _, none] _ _ _ _
  refine P_aload_n_o (pc := 0) dX2_acceptSign_0 rfl ?_
  refine P_getr_o (pc := 1) 8 0 dX2_acceptSign_1 fl_X2_65 sh_36_o fr_8_0 F_36_0_o ?_
  refine P_geti_o (pc := 4) 6 0 (x := nI (s 111 1)) dX2_acceptSign_4 fl_X2_69 sh_37_o fi_6_0 (hD.1.1) ?_
  refine P_istore_n_o (pc := 7) dX2_acceptSign_7 (by decide) rfl ?_
  refine P_aload_n_o (pc := 8) dX2_acceptSign_8 rfl ?_
  refine P_getr_o (pc := 9) 8 1 dX2_acceptSign_9 fl_X2_89 sh_36_o fr_8_1 F_36_1_o ?_
  refine P_geti_o (pc := 12) 5 3 (x := nI (s 109 13)) dX2_acceptSign_12 fl_X2_93 sh_58_o fi_5_3 (hD.2.2.2.1.1) ?_
  refine P_bipush_o (pc := 15) (x := nI 8) dX2_acceptSign_15 (by decide) ?_
  refine P_icmp_geN_o (pc := 17) (tgt := 59) dX2_acceptSign_17 (by decide) (by omega) (by omega) (fun h17 => ?_) (fun h17 => ?_)
  · refine P_iconst_o (pc := 59) (x := nI 0) dX2_acceptSign_59 (by decide) ?_
    refine P_iret_o (pc := 60) dX2_acceptSign_60 ?_
    exact ⟨congrArg some (zb_f (by omega)), rfl, zDf.rf, fun z => by omega⟩
  · refine P_aload_n_o (pc := 20) dX2_acceptSign_20 rfl ?_
    refine P_getr_o (pc := 21) 2 0 dX2_acceptSign_21 fl_X2_9 sh_3_o fr_2_0 F_3_0_o ?_
    refine P_iconst_o (pc := 24) (x := nI 0) dX2_acceptSign_24 (by decide) ?_
    refine P_iald_o (pc := 25) (0) (x := nI (n0)) dX2_acceptSign_25 sh_4_o rfl (by omega) (by decide) (hn0) ?_
    refine P_iload_n_o (pc := 26) dX2_acceptSign_26 rfl ?_
    obtain ⟨_, _, _, ki1, rfl, rfl, rfl⟩ := c_isWithinN_o (l := l) (D := D) (tw := tw) (I := I) (j := (n0)) (n := (s 111 1)) (by omega) (by omega)
    refine P_callS_o (pc := 27) (S := []) (As := [_, _]) ki1 dX2_acceptSign_27 ok_X11_isWithin ml_X2_77 is_X11_isWithin ⟨by decide, by decide⟩ (zret_b (decide ((n0) < (s 111 1)))) rfl ⟨rfl, by decide⟩ (Nat.le_of_ble_eq_true rfl) ?_
    refine P_if_eqB_o (pc := 30) (tgt := 59) dX2_acceptSign_30 (by decide) (fun h30 => ?_) (fun h30 => ?_)
    · refine P_iconst_o (pc := 59) (x := nI 0) dX2_acceptSign_59 (by decide) ?_
      refine P_iret_o (pc := 60) dX2_acceptSign_60 ?_
      have g30 := of_decide_eq_false h30
      exact ⟨congrArg some (zb_f (by omega)), rfl, zDf.rf, fun z => by omega⟩
    · refine P_aload_n_o (pc := 33) dX2_acceptSign_33 rfl ?_
      refine P_getr_o (pc := 34) 2 0 dX2_acceptSign_34 fl_X2_9 sh_3_o fr_2_0 F_3_0_o ?_
      refine P_iconst_o (pc := 37) (x := nI 1) dX2_acceptSign_37 (by decide) ?_
      refine P_iald_o (pc := 38) (1) (x := nI (n1)) dX2_acceptSign_38 sh_4_o rfl (by omega) (by decide) (hn1) ?_
      refine P_iload_n_o (pc := 39) dX2_acceptSign_39 rfl ?_
      obtain ⟨_, _, _, ki2, rfl, rfl, rfl⟩ := c_isWithinN_o (l := l) (D := D) (tw := tw) (I := I) (j := (n1)) (n := (s 111 1)) (by omega) (by omega)
      refine P_callS_o (pc := 40) (S := []) (As := [_, _]) ki2 dX2_acceptSign_40 ok_X11_isWithin ml_X2_77 is_X11_isWithin ⟨by decide, by decide⟩ (zret_b (decide ((n1) < (s 111 1)))) rfl ⟨rfl, by decide⟩ (Nat.le_of_ble_eq_true rfl) ?_
      refine P_if_eqB_o (pc := 43) (tgt := 59) dX2_acceptSign_43 (by decide) (fun h43 => ?_) (fun h43 => ?_)
      · refine P_iconst_o (pc := 59) (x := nI 0) dX2_acceptSign_59 (by decide) ?_
        refine P_iret_o (pc := 60) dX2_acceptSign_60 ?_
        have g30 := of_decide_eq_true h30
        have g43 := of_decide_eq_false h43
        exact ⟨congrArg some (zb_f (by omega)), rfl, zDf.rf, fun z => by omega⟩
      · refine P_aload_n_o (pc := 46) dX2_acceptSign_46 rfl ?_
        refine P_getr_o (pc := 47) 2 0 dX2_acceptSign_47 fl_X2_9 sh_3_o fr_2_0 F_3_0_o ?_
        refine P_iconst_o (pc := 50) (x := nI 2) dX2_acceptSign_50 (by decide) ?_
        refine P_iald_o (pc := 51) (2) (x := nI (n2)) dX2_acceptSign_51 sh_4_o rfl (by omega) (by decide) (hn2) ?_
        refine P_iload_n_o (pc := 52) dX2_acceptSign_52 rfl ?_
        obtain ⟨_, _, _, ki3, rfl, rfl, rfl⟩ := c_isWithinN_o (l := l) (D := D) (tw := tw) (I := I) (j := (n2)) (n := (s 111 1)) (by omega) (by omega)
        refine P_callS_o (pc := 53) (S := []) (As := [_, _]) ki3 dX2_acceptSign_53 ok_X11_isWithin ml_X2_77 is_X11_isWithin ⟨by decide, by decide⟩ (zret_b (decide ((n2) < (s 111 1)))) rfl ⟨rfl, by decide⟩ (Nat.le_of_ble_eq_true rfl) ?_
        refine P_if_neB_o (pc := 56) (tgt := 61) dX2_acceptSign_56 (by decide) (fun h56 => ?_) (fun h56 => ?_)
        · refine P_aload_n_o (pc := 61) dX2_acceptSign_61 rfl ?_
          refine P_getr_o (pc := 62) 8 1 dX2_acceptSign_62 fl_X2_89 sh_36_o fr_8_1 F_36_1_o ?_
          refine P_aload_n_o (pc := 65) dX2_acceptSign_65 rfl ?_
          refine P_getr_o (pc := 66) 8 1 dX2_acceptSign_66 fl_X2_89 sh_36_o fr_8_1 F_36_1_o ?_
          refine P_geti_o (pc := 69) 5 3 (x := nI (s 109 13)) dX2_acceptSign_69 fl_X2_93 sh_58_o fi_5_3 (hD.2.2.2.1.1) ?_
          refine P_aload_n_o (pc := 72) dX2_acceptSign_72 rfl ?_
          refine P_getr_o (pc := 73) 2 0 dX2_acceptSign_73 fl_X2_9 sh_3_o fr_2_0 F_3_0_o ?_
          refine P_iconst_o (pc := 76) (x := nI 0) dX2_acceptSign_76 (by decide) ?_
          refine P_iald_o (pc := 77) (0) (x := nI (n0)) dX2_acceptSign_77 sh_4_o rfl (by omega) (by decide) (hn0) ?_
          refine P_aload_n_o (pc := 78) dX2_acceptSign_78 rfl ?_
          refine P_getr_o (pc := 79) 2 0 dX2_acceptSign_79 fl_X2_9 sh_3_o fr_2_0 F_3_0_o ?_
          refine P_iconst_o (pc := 82) (x := nI 1) dX2_acceptSign_82 (by decide) ?_
          refine P_iald_o (pc := 83) (1) (x := nI (n1)) dX2_acceptSign_83 sh_4_o rfl (by omega) (by decide) (hn1) ?_
          refine P_aload_n_o (pc := 84) dX2_acceptSign_84 rfl ?_
          refine P_getr_o (pc := 85) 2 0 dX2_acceptSign_85 fl_X2_9 sh_3_o fr_2_0 F_3_0_o ?_
          refine P_iconst_o (pc := 88) (x := nI 2) dX2_acceptSign_88 (by decide) ?_
          refine P_iald_o (pc := 89) (2) (x := nI (n2)) dX2_acceptSign_89 sh_4_o rfl (by omega) (by decide) (hn2) ?_
          have g30 := of_decide_eq_true h30
          have g43 := of_decide_eq_true h43
          have g56 := of_decide_eq_true h56
          obtain ⟨_, K, _, kc, rfl, rfl, hK1, hK2⟩ := c_insert_58_o (l := l) (D := D) (tw := tw) (I := I) hD.2.2.2.1 (k := s 109 13) (c := n0) (a := n1) (n := n2) (Nat.le_refl _) (by omega) (by omega) (by omega) (by omega)
          refine P_callV_o (pc := 90) (S := []) (As := [_, _, _, _]) kc dX2_acceptSign_90 ok_X5_insert ml_X2_96 iv_X5_insert ⟨by decide, by decide⟩ zret_v rfl ⟨rfl, by decide⟩ sh_58_o ⟨by decide, rfl⟩ (Nat.le_of_ble_eq_true rfl) ?_
          refine P_iconst_o (pc := 93) (x := nI 1) dX2_acceptSign_93 (by decide) ?_
          refine P_iret_o (pc := 94) dX2_acceptSign_94 ?_
          exact ⟨congrArg some (zb_t (by omega)), rfl, hK1.df (by decide), fun _ => hD.G hK1 hK2⟩
        · refine P_iconst_o (pc := 59) (x := nI 0) dX2_acceptSign_59 (by decide) ?_
          refine P_iret_o (pc := 60) dX2_acceptSign_60 ?_
          have g30 := of_decide_eq_true h30
          have g43 := of_decide_eq_true h43
          have g56 := of_decide_eq_false h56
          exact ⟨congrArg some (zb_f (by omega)), rfl, zDf.rf, fun z => by omega⟩
set_option maxRecDepth 20000 in
theorem c_acceptWalker_36_o {l : Launch} {D : va_G} {tw : Nat} {I : AI} {s : Nat → Nat → Nat} {f : Bool} (hD : DrC s I 36) (hO : DrF s f) {n0 n1 n2 : Nat} (hn0 : I 4 0 = nI n0) (hn1 : I 4 1 = nI n1) (hn2 : I 4 2 = nI n2) (hb0 : n0 ≤ 99) (hb1 : n1 ≤ 99) (hb2 : n2 ≤ 99) : ZP_o l D zm_X2_acceptWalker 0 (zent 3 [.ref 3, .ref 36]) [] I (zF_o tw) (fun v J G => v = some (zb (decide (s 116 1 < 4 ∧ n0 < 4 ∧ n1 < s 111 1 ∧ n2 < s 111 1))) ∧ G = zF_o tw ∧ zDf 36 I J ∧ ((s 116 1 < 4 ∧ n0 < 4 ∧ n1 < s 111 1 ∧ n2 < s 111 1) → DrC (dW s n0 n1 n2) J 36)) := by
  obtain ⟨⟨d1, d2, d3, d4, d5⟩, dS1, dG1, dW1, dR1, dF1⟩ := hO
  show ZP_o _ _ _ _ [some _, some _, none] _ _ _ _
  refine P_aload_n_o (pc := 0) dX2_acceptWalker_0 rfl ?_
  refine P_getr_o (pc := 1) 8 0 dX2_acceptWalker_1 fl_X2_65 sh_36_o fr_8_0 F_36_0_o ?_
  refine P_geti_o (pc := 4) 6 0 (x := nI (s 111 1)) dX2_acceptWalker_4 fl_X2_69 sh_37_o fi_6_0 (hD.1.1) ?_
  refine P_istore_n_o (pc := 7) dX2_acceptWalker_7 (by decide) rfl ?_
  refine P_aload_n_o (pc := 8) dX2_acceptWalker_8 rfl ?_
  refine P_getr_o (pc := 9) 8 2 dX2_acceptWalker_9 fl_X2_100 sh_36_o fr_8_2 F_36_2_o ?_
  refine P_geti_o (pc := 12) 10 4 (x := nI (s 116 1)) dX2_acceptWalker_12 fl_X2_104 sh_62_o fi_10_4 (hD.2.2.2.2.1.1) ?_
  refine P_iconst_o (pc := 15) (x := nI 4) dX2_acceptWalker_15 (by decide) ?_
  refine P_icmp_geN_o (pc := 16) (tgt := 58) dX2_acceptWalker_16 (by decide) (by omega) (by omega) (fun h16 => ?_) (fun h16 => ?_)
  · refine P_iconst_o (pc := 58) (x := nI 0) dX2_acceptWalker_58 (by decide) ?_
    refine P_iret_o (pc := 59) dX2_acceptWalker_59 ?_
    exact ⟨congrArg some (zb_f (by omega)), rfl, zDf.rf, fun z => by omega⟩
  · refine P_aload_n_o (pc := 19) dX2_acceptWalker_19 rfl ?_
    refine P_getr_o (pc := 20) 2 0 dX2_acceptWalker_20 fl_X2_9 sh_3_o fr_2_0 F_3_0_o ?_
    refine P_iconst_o (pc := 23) (x := nI 0) dX2_acceptWalker_23 (by decide) ?_
    refine P_iald_o (pc := 24) (0) (x := nI (n0)) dX2_acceptWalker_24 sh_4_o rfl (by omega) (by decide) (hn0) ?_
    refine P_iconst_o (pc := 25) (x := nI 4) dX2_acceptWalker_25 (by decide) ?_
    obtain ⟨_, _, _, ki1, rfl, rfl, rfl⟩ := c_isWithinN_o (l := l) (D := D) (tw := tw) (I := I) (j := (n0)) (n := 4) (by omega) (by omega)
    refine P_callS_o (pc := 26) (S := []) (As := [_, _]) ki1 dX2_acceptWalker_26 ok_X11_isWithin ml_X2_77 is_X11_isWithin ⟨by decide, by decide⟩ (zret_b (decide ((n0) < 4))) rfl ⟨rfl, by decide⟩ (Nat.le_of_ble_eq_true rfl) ?_
    refine P_if_eqB_o (pc := 29) (tgt := 58) dX2_acceptWalker_29 (by decide) (fun h29 => ?_) (fun h29 => ?_)
    · refine P_iconst_o (pc := 58) (x := nI 0) dX2_acceptWalker_58 (by decide) ?_
      refine P_iret_o (pc := 59) dX2_acceptWalker_59 ?_
      have g29 := of_decide_eq_false h29
      exact ⟨congrArg some (zb_f (by omega)), rfl, zDf.rf, fun z => by omega⟩
    · refine P_aload_n_o (pc := 32) dX2_acceptWalker_32 rfl ?_
      refine P_getr_o (pc := 33) 2 0 dX2_acceptWalker_33 fl_X2_9 sh_3_o fr_2_0 F_3_0_o ?_
      refine P_iconst_o (pc := 36) (x := nI 1) dX2_acceptWalker_36 (by decide) ?_
      refine P_iald_o (pc := 37) (1) (x := nI (n1)) dX2_acceptWalker_37 sh_4_o rfl (by omega) (by decide) (hn1) ?_
      refine P_iload_n_o (pc := 38) dX2_acceptWalker_38 rfl ?_
      obtain ⟨_, _, _, ki2, rfl, rfl, rfl⟩ := c_isWithinN_o (l := l) (D := D) (tw := tw) (I := I) (j := (n1)) (n := (s 111 1)) (by omega) (by omega)
      refine P_callS_o (pc := 39) (S := []) (As := [_, _]) ki2 dX2_acceptWalker_39 ok_X11_isWithin ml_X2_77 is_X11_isWithin ⟨by decide, by decide⟩ (zret_b (decide ((n1) < (s 111 1)))) rfl ⟨rfl, by decide⟩ (Nat.le_of_ble_eq_true rfl) ?_
      refine P_if_eqB_o (pc := 42) (tgt := 58) dX2_acceptWalker_42 (by decide) (fun h42 => ?_) (fun h42 => ?_)
      · refine P_iconst_o (pc := 58) (x := nI 0) dX2_acceptWalker_58 (by decide) ?_
        refine P_iret_o (pc := 59) dX2_acceptWalker_59 ?_
        have g29 := of_decide_eq_true h29
        have g42 := of_decide_eq_false h42
        exact ⟨congrArg some (zb_f (by omega)), rfl, zDf.rf, fun z => by omega⟩
      · refine P_aload_n_o (pc := 45) dX2_acceptWalker_45 rfl ?_
        refine P_getr_o (pc := 46) 2 0 dX2_acceptWalker_46 fl_X2_9 sh_3_o fr_2_0 F_3_0_o ?_
        refine P_iconst_o (pc := 49) (x := nI 2) dX2_acceptWalker_49 (by decide) ?_
        refine P_iald_o (pc := 50) (2) (x := nI (n2)) dX2_acceptWalker_50 sh_4_o rfl (by omega) (by decide) (hn2) ?_
        refine P_iload_n_o (pc := 51) dX2_acceptWalker_51 rfl ?_
        obtain ⟨_, _, _, ki3, rfl, rfl, rfl⟩ := c_isWithinN_o (l := l) (D := D) (tw := tw) (I := I) (j := (n2)) (n := (s 111 1)) (by omega) (by omega)
        refine P_callS_o (pc := 52) (S := []) (As := [_, _]) ki3 dX2_acceptWalker_52 ok_X11_isWithin ml_X2_77 is_X11_isWithin ⟨by decide, by decide⟩ (zret_b (decide ((n2) < (s 111 1)))) rfl ⟨rfl, by decide⟩ (Nat.le_of_ble_eq_true rfl) ?_
        refine P_if_neB_o (pc := 55) (tgt := 60) dX2_acceptWalker_55 (by decide) (fun h55 => ?_) (fun h55 => ?_)
        · refine P_aload_n_o (pc := 60) dX2_acceptWalker_60 rfl ?_
          refine P_getr_o (pc := 61) 8 2 dX2_acceptWalker_61 fl_X2_100 sh_36_o fr_8_2 F_36_2_o ?_
          refine P_aload_n_o (pc := 64) dX2_acceptWalker_64 rfl ?_
          refine P_getr_o (pc := 65) 2 0 dX2_acceptWalker_65 fl_X2_9 sh_3_o fr_2_0 F_3_0_o ?_
          refine P_iconst_o (pc := 68) (x := nI 0) dX2_acceptWalker_68 (by decide) ?_
          refine P_iald_o (pc := 69) (0) (x := nI (n0)) dX2_acceptWalker_69 sh_4_o rfl (by omega) (by decide) (hn0) ?_
          refine P_aload_n_o (pc := 70) dX2_acceptWalker_70 rfl ?_
          refine P_getr_o (pc := 71) 2 0 dX2_acceptWalker_71 fl_X2_9 sh_3_o fr_2_0 F_3_0_o ?_
          refine P_iconst_o (pc := 74) (x := nI 1) dX2_acceptWalker_74 (by decide) ?_
          refine P_iald_o (pc := 75) (1) (x := nI (n1)) dX2_acceptWalker_75 sh_4_o rfl (by omega) (by decide) (hn1) ?_
          refine P_aload_n_o (pc := 76) dX2_acceptWalker_76 rfl ?_
          refine P_getr_o (pc := 77) 2 0 dX2_acceptWalker_77 fl_X2_9 sh_3_o fr_2_0 F_3_0_o ?_
          refine P_iconst_o (pc := 80) (x := nI 2) dX2_acceptWalker_80 (by decide) ?_
          refine P_iald_o (pc := 81) (2) (x := nI (n2)) dX2_acceptWalker_81 sh_4_o rfl (by omega) (by decide) (hn2) ?_
          have g29 := of_decide_eq_true h29
          have g42 := of_decide_eq_true h42
          have g55 := of_decide_eq_true h55
          obtain ⟨_, K, _, kc, rfl, rfl, hK⟩ := c_wadd_36_o (l := l) (D := D) (tw := tw) (I := I) (m := s 116 1) (k := n0) (f := n1) (a := n2) hD.2.2.2.2.1.1 (by omega)
          refine P_callV_o (pc := 82) (S := []) (As := [_, _, _]) kc dX2_acceptWalker_82 ok_X10_add ml_X2_107 iv_X10_add ⟨by decide, by decide⟩ zret_v rfl ⟨rfl, by decide⟩ sh_62_o ⟨by decide, rfl⟩ (Nat.le_of_ble_eq_true rfl) ?_
          refine P_iconst_o (pc := 85) (x := nI 1) dX2_acceptWalker_85 (by decide) ?_
          refine P_iret_o (pc := 86) dX2_acceptWalker_86 ?_
          subst hK
          exact ⟨congrArg some (zb_t (by omega)), rfl, fun a ha => zWd_o (by omega), fun _ => hD.W (by omega) (by omega) (by omega) (by omega)⟩
        · refine P_iconst_o (pc := 58) (x := nI 0) dX2_acceptWalker_58 (by decide) ?_
          refine P_iret_o (pc := 59) dX2_acceptWalker_59 ?_
          have g29 := of_decide_eq_true h29
          have g42 := of_decide_eq_true h42
          have g55 := of_decide_eq_false h55
          exact ⟨congrArg some (zb_f (by omega)), rfl, zDf.rf, fun z => by omega⟩
set_option maxRecDepth 20000 in
theorem c_acceptStreet_36_o {l : Launch} {D : va_G} {tw : Nat} {I : AI} {s : Nat → Nat → Nat} {f : Bool} (hD : DrC s I 36) (hO : DrF s f) {n0 n1 n2 : Nat} (hn0 : I 4 0 = nI n0) (hn1 : I 4 1 = nI n1) (hn2 : I 4 2 = nI n2) (hb0 : n0 ≤ 99) (hb1 : n1 ≤ 99) (hb2 : n2 ≤ 99) : ZP_o l D zm_X2_acceptStreet 0 (zent 6 [.ref 3, .ref 36]) [] I (zF_o tw) (fun v J G => v = some (zb (decide (s 112 1 < 12 ∧ n0 < s 111 1 ∧ n1 < s 111 1 ∧ ¬ n0 = n1 ∧ ¬ nrD s (8 * n0 + n1) < 10000 ∧ 1 ≤ n2 ∧ n2 ≤ 20))) ∧ G = zF_o tw ∧ zDf 36 I J ∧ ((s 112 1 < 12 ∧ n0 < s 111 1 ∧ n1 < s 111 1 ∧ ¬ n0 = n1 ∧ ¬ nrD s (8 * n0 + n1) < 10000 ∧ 1 ≤ n2 ∧ n2 ≤ 20) → DrC (dS s n0 n1 n2) J 36)) := by
  obtain ⟨⟨d1, d2, d3, d4, d5⟩, dS1, dG1, dW1, dR1, dF1⟩ := hO
  show ZP_o _ _ _ _ [some _, some _, none, none, none, none] _ _ _ _
  refine P_aload_n_o (pc := 0) dX2_acceptStreet_0 rfl ?_
  refine P_getr_o (pc := 1) 8 0 dX2_acceptStreet_1 fl_X2_65 sh_36_o fr_8_0 F_36_0_o ?_
  refine P_astore_n_o (pc := 4) dX2_acceptStreet_4 (by decide) rfl ?_
  refine P_aload_n_o (pc := 5) dX2_acceptStreet_5 rfl ?_
  refine P_getr_o (pc := 6) 2 0 dX2_acceptStreet_6 fl_X2_9 sh_3_o fr_2_0 F_3_0_o ?_
  refine P_iconst_o (pc := 9) (x := nI 0) dX2_acceptStreet_9 (by decide) ?_
  refine P_iald_o (pc := 10) (0) (x := nI (n0)) dX2_acceptStreet_10 sh_4_o rfl (by omega) (by decide) (hn0) ?_
  refine P_istore_n_o (pc := 11) dX2_acceptStreet_11 (by decide) rfl ?_
  refine P_aload_n_o (pc := 12) dX2_acceptStreet_12 rfl ?_
  refine P_getr_o (pc := 13) 2 0 dX2_acceptStreet_13 fl_X2_9 sh_3_o fr_2_0 F_3_0_o ?_
  refine P_iconst_o (pc := 16) (x := nI 1) dX2_acceptStreet_16 (by decide) ?_
  refine P_iald_o (pc := 17) (1) (x := nI (n1)) dX2_acceptStreet_17 sh_4_o rfl (by omega) (by decide) (hn1) ?_
  refine P_istore_o (pc := 18) dX2_acceptStreet_18 (by decide) rfl ?_
  refine P_aload_n_o (pc := 20) dX2_acceptStreet_20 rfl ?_
  refine P_getr_o (pc := 21) 2 0 dX2_acceptStreet_21 fl_X2_9 sh_3_o fr_2_0 F_3_0_o ?_
  refine P_iconst_o (pc := 24) (x := nI 2) dX2_acceptStreet_24 (by decide) ?_
  refine P_iald_o (pc := 25) (2) (x := nI (n2)) dX2_acceptStreet_25 sh_4_o rfl (by omega) (by decide) (hn2) ?_
  refine P_istore_o (pc := 26) dX2_acceptStreet_26 (by decide) rfl ?_
  refine P_aload_n_o (pc := 28) dX2_acceptStreet_28 rfl ?_
  refine P_geti_o (pc := 29) 6 1 (x := nI (s 112 1)) dX2_acceptStreet_29 fl_X2_74 sh_37_o fi_6_1 (hD.1.2) ?_
  refine P_bipush_o (pc := 32) (x := nI 12) dX2_acceptStreet_32 (by decide) ?_
  refine P_icmp_geN_o (pc := 34) (tgt := 60) dX2_acceptStreet_34 (by decide) (by omega) (by omega) (fun h34 => ?_) (fun h34 => ?_)
  · refine P_iconst_o (pc := 60) (x := nI 0) dX2_acceptStreet_60 (by decide) ?_
    refine P_iret_o (pc := 61) dX2_acceptStreet_61 ?_
    exact ⟨congrArg some (zb_f (by omega)), rfl, zDf.rf, fun z => by omega⟩
  · refine P_iload_n_o (pc := 37) dX2_acceptStreet_37 rfl ?_
    refine P_aload_n_o (pc := 38) dX2_acceptStreet_38 rfl ?_
    refine P_geti_o (pc := 39) 6 0 (x := nI (s 111 1)) dX2_acceptStreet_39 fl_X2_69 sh_37_o fi_6_0 (hD.1.1) ?_
    obtain ⟨_, _, _, ki1, rfl, rfl, rfl⟩ := c_isWithinN_o (l := l) (D := D) (tw := tw) (I := I) (j := (n0)) (n := (s 111 1)) (by omega) (by omega)
    refine P_callS_o (pc := 42) (S := []) (As := [_, _]) ki1 dX2_acceptStreet_42 ok_X11_isWithin ml_X2_77 is_X11_isWithin ⟨by decide, by decide⟩ (zret_b (decide ((n0) < (s 111 1)))) rfl ⟨rfl, by decide⟩ (Nat.le_of_ble_eq_true rfl) ?_
    refine P_if_eqB_o (pc := 45) (tgt := 60) dX2_acceptStreet_45 (by decide) (fun h45 => ?_) (fun h45 => ?_)
    · refine P_iconst_o (pc := 60) (x := nI 0) dX2_acceptStreet_60 (by decide) ?_
      refine P_iret_o (pc := 61) dX2_acceptStreet_61 ?_
      have g45 := of_decide_eq_false h45
      exact ⟨congrArg some (zb_f (by omega)), rfl, zDf.rf, fun z => by omega⟩
    · refine P_iload_o (pc := 48) dX2_acceptStreet_48 rfl ?_
      refine P_aload_n_o (pc := 50) dX2_acceptStreet_50 rfl ?_
      refine P_geti_o (pc := 51) 6 0 (x := nI (s 111 1)) dX2_acceptStreet_51 fl_X2_69 sh_37_o fi_6_0 (hD.1.1) ?_
      obtain ⟨_, _, _, ki2, rfl, rfl, rfl⟩ := c_isWithinN_o (l := l) (D := D) (tw := tw) (I := I) (j := (n1)) (n := (s 111 1)) (by omega) (by omega)
      refine P_callS_o (pc := 54) (S := []) (As := [_, _]) ki2 dX2_acceptStreet_54 ok_X11_isWithin ml_X2_77 is_X11_isWithin ⟨by decide, by decide⟩ (zret_b (decide ((n1) < (s 111 1)))) rfl ⟨rfl, by decide⟩ (Nat.le_of_ble_eq_true rfl) ?_
      refine P_if_neB_o (pc := 57) (tgt := 62) dX2_acceptStreet_57 (by decide) (fun h57 => ?_) (fun h57 => ?_)
      · have g45 := of_decide_eq_true h45
        have g57 := of_decide_eq_true h57
        have hpos : 1 ≤ nrD s (8 * n0 + n1) := zNr_pos (fun k hk => (dS1 k hk).2.2.2.1) _
        have hz := zln_pos hpos
        refine P_iload_n_o (pc := 62) dX2_acceptStreet_62 rfl ?_
        refine P_iload_o (pc := 63) dX2_acceptStreet_63 rfl ?_
        refine P_icmp_eqN_o (pc := 65) (tgt := 93) dX2_acceptStreet_65 (by decide) (by omega) (by omega) (fun h65 => ?_) (fun h65 => ?_)
        · refine P_iconst_o (pc := 93) (x := nI 0) dX2_acceptStreet_93 (by decide) ?_
          refine P_iret_o (pc := 94) dX2_acceptStreet_94 ?_
          exact ⟨congrArg some (zb_f (by omega)), rfl, zDf.rf, fun z => by omega⟩
        · refine P_aload_n_o (pc := 68) dX2_acceptStreet_68 rfl ?_
          refine P_getr_o (pc := 69) 6 4 dX2_acceptStreet_69 fl_X2_81 sh_37_o fr_6_4 F_37_4_o ?_
          refine P_iload_n_o (pc := 72) dX2_acceptStreet_72 rfl ?_
          refine P_aald_o (pc := 73) ((n0)) dX2_acceptStreet_73 sh_40_o (by decide) rfl (by omega) (by decide) (Fr_40_o _ (by omega)) ?_
          refine P_iload_o (pc := 74) dX2_acceptStreet_74 rfl ?_
          refine P_iald_o (pc := 76) ((n1)) (x := nI (zln (nrD s (8 * (n0) + (n1))))) dX2_acceptStreet_76 (shr_41_o _ (by omega)) rfl (by omega) (by decide) (hD.2.2.1 _ _ (by omega) (by omega)) ?_
          refine P_if_gt_o (pc := 77) (tgt := 93) dX2_acceptStreet_77 (by decide) (fun h77 => ?_) (fun h77 => ?_)
          · refine P_iconst_o (pc := 93) (x := nI 0) dX2_acceptStreet_93 (by decide) ?_
            refine P_iret_o (pc := 94) dX2_acceptStreet_94 ?_
            have g77 := (nI_pos0 (by omega)).mp h77
            have g78 := hz.1.mp g77
            exact ⟨congrArg some (zb_f (by omega)), rfl, zDf.rf, fun z => by omega⟩
          · refine P_iload_o (pc := 80) dX2_acceptStreet_80 rfl ?_
            refine P_iconst_o (pc := 82) (x := nI 1) dX2_acceptStreet_82 (by decide) ?_
            refine P_icmp_ltN_o (pc := 83) (tgt := 93) dX2_acceptStreet_83 (by decide) (by omega) (by omega) (fun h83 => ?_) (fun h83 => ?_)
            · refine P_iconst_o (pc := 93) (x := nI 0) dX2_acceptStreet_93 (by decide) ?_
              refine P_iret_o (pc := 94) dX2_acceptStreet_94 ?_
              exact ⟨congrArg some (zb_f (by omega)), rfl, zDf.rf, fun z => by omega⟩
            · refine P_iload_o (pc := 86) dX2_acceptStreet_86 rfl ?_
              refine P_bipush_o (pc := 88) (x := nI 20) dX2_acceptStreet_88 (by decide) ?_
              refine P_icmp_leN_o (pc := 90) (tgt := 95) dX2_acceptStreet_90 (by decide) (by omega) (by omega) (fun h90 => ?_) (fun h90 => ?_)
              · refine P_aload_n_o (pc := 95) dX2_acceptStreet_95 rfl ?_
                refine P_iload_n_o (pc := 96) dX2_acceptStreet_96 rfl ?_
                refine P_iload_o (pc := 97) dX2_acceptStreet_97 rfl ?_
                refine P_iload_o (pc := 99) dX2_acceptStreet_99 rfl ?_
                obtain ⟨_, K, _, kc, rfl, rfl, hK⟩ := c_stadd_36_o (l := l) (D := D) (tw := tw) (I := I) (m := s 112 1) (a := n0) (b := n1) (x := n2) hD.1.2 (by omega) (by omega) (by omega)
                refine P_callV_o (pc := 101) (S := []) (As := [_, _, _]) kc dX2_acceptStreet_101 ok_X6_add ml_X2_85 iv_X6_add ⟨by decide, by decide⟩ zret_v rfl ⟨rfl, by decide⟩ sh_37_o ⟨by decide, rfl⟩ (Nat.le_of_ble_eq_true rfl) ?_
                refine P_iconst_o (pc := 104) (x := nI 1) dX2_acceptStreet_104 (by decide) ?_
                refine P_iret_o (pc := 105) dX2_acceptStreet_105 ?_
                have g77 : ¬ nrD s (8 * n0 + n1) < 10000 := fun z => h77 ((nI_pos0 (by omega)).mpr (hz.1.mpr z))
                subst hK
                exact ⟨congrArg some (zb_t (by omega)), rfl, fun a ha => by unfold zSd; rw [zu_o _ _ (by omega), zu_o _ _ (by omega), zu_o _ _ (by omega), zu_o _ _ (by omega), zu_o _ _ (by omega)], fun _ => hD.S (by omega) (by omega) (by omega) (by omega)⟩
              · refine P_iconst_o (pc := 93) (x := nI 0) dX2_acceptStreet_93 (by decide) ?_
                refine P_iret_o (pc := 94) dX2_acceptStreet_94 ?_
                exact ⟨congrArg some (zb_f (by omega)), rfl, zDf.rf, fun z => by omega⟩
      · refine P_iconst_o (pc := 60) (x := nI 0) dX2_acceptStreet_60 (by decide) ?_
        refine P_iret_o (pc := 61) dX2_acceptStreet_61 ?_
        have g45 := of_decide_eq_true h45
        have g57 := of_decide_eq_false h57
        exact ⟨congrArg some (zb_f (by omega)), rfl, zDf.rf, fun z => by omega⟩
set_option maxRecDepth 20000 in
theorem c_accept_36_o {l : Launch} {D : va_G} {tw : Nat} {I : AI} {s : Nat → Nat → Nat} {f : Bool} (hD : DrC s I 36) (hO : DrF s f) (hf : I 3 2 = zb f) {c n0 n1 n2 : Nat} (hc : c ≤ 126) (hn0 : I 4 0 = nI n0) (hn12 : ¬ c = 99 → I 4 1 = nI n1 ∧ I 4 2 = nI n2) (hb0 : n0 ≤ 99) (hb1 : n1 ≤ 99) (hb2 : n2 ≤ 99) : ZP_o l D zm_X2_accept 0 (zent 3 [.ref 3, .int (nI c), .ref 36]) [] I (zF_o tw) (fun v J G => v = some (zb (zAcc s f c n0 n1 n2).isSome) ∧ G = zF_o tw ∧ zAf 36 I J ∧ J 3 1 = I 3 1 ∧ ∀ q, zAcc s f c n0 n1 n2 = some q → DrC q.1 J 36 ∧ J 3 2 = zb q.2) := by
  show ZP_o _ _ _ _ [some _, some _, some _] _ _ _ _
  refine P_iload_n_o (pc := 0) dX2_accept_0 rfl ?_
  refine P_bipush_o (pc := 1) (x := nI 99) dX2_accept_1 (by decide) ?_
  refine P_icmp_neN_o (pc := 3) (tgt := 27) dX2_accept_3 (by decide) (by omega) (by omega) (fun h3 => ?_) (fun h3 => ?_)
  · refine P_aload_n_o (pc := 27) dX2_accept_27 rfl ?_
    refine P_iconst_o (pc := 28) (x := nI 0) dX2_accept_28 (by decide) ?_
    refine P_puti_o (pc := 29) 2 2 dX2_accept_29 fl_X2_24 sh_3_o fp_2_2 (by decide) (by decide) ?_
    refine P_iload_n_o (pc := 32) dX2_accept_32 rfl ?_
    obtain ⟨hn1, hn2⟩ := hn12 h3
    by_cases hc115 : c = 115
    · refine P_lookup_o (pc := 33) (off := 43) (tgt := 76) dX2_accept_33 (by decide) (by rw [hc115]; decide) (by decide) ?_
      refine P_aload_n_o (pc := 76) dX2_accept_76 rfl ?_
      refine P_aload_n_o (pc := 77) dX2_accept_77 rfl ?_
      obtain ⟨_, K, _, kc, rfl, rfl, hK1, hK2⟩ := c_acceptStreet_36_o (l := l) (D := D) (tw := tw) (I := zu I 3 2 (nI 0)) (hD.eq (fun a h1 h2 => zu_o _ _ (by omega))) hO (n0 := n0) (n1 := n1) (n2 := n2) hn0 hn1 hn2 hb0 hb1 hb2
      refine P_callV_o (pc := 78) (S := []) (As := [_]) kc dX2_accept_78 ok_X2_acceptStreet ml_X2_53 iv_X2_acceptStreet ⟨by decide, by decide⟩ (zret_b (aOs s n0 n1 n2)) rfl ⟨rfl, by decide⟩ sh_3_o ⟨by decide, rfl⟩ (Nat.le_of_ble_eq_true rfl) ?_
      refine P_iret_o (pc := 81) dX2_accept_81 ?_
      have hz : zAcc s f c n0 n1 n2 = if aOs s n0 n1 n2 = true then some (dS s n0 n1 n2, false) else none := by unfold zAcc; rw [if_neg h3, if_pos hc115]
      rw [hz]
      refine ⟨zb_some, rfl, fun a h3 h4 h5 => (hK1 a h5).trans (zu_o _ _ h3), (congrFun (hK1 3 (by decide)) 1).trans rfl, fun q hq => ?_⟩
      by_cases hk : aOs s n0 n1 n2 = true
      · rw [if_pos hk] at hq; cases hq; exact ⟨hK2 (of_decide_eq_true hk), (congrFun (hK1 3 (by decide)) 2).trans rfl⟩
      · rw [if_neg hk] at hq; cases hq
    by_cases hc103 : c = 103
    · refine P_lookup_o (pc := 33) (off := 49) (tgt := 82) dX2_accept_33 (by decide) (by rw [hc103]; decide) (by decide) ?_
      refine P_aload_n_o (pc := 82) dX2_accept_82 rfl ?_
      refine P_aload_n_o (pc := 83) dX2_accept_83 rfl ?_
      obtain ⟨_, K, _, kc, rfl, rfl, hK1, hK2⟩ := c_acceptSign_36_o (l := l) (D := D) (tw := tw) (I := zu I 3 2 (nI 0)) (hD.eq (fun a h1 h2 => zu_o _ _ (by omega))) hO (n0 := n0) (n1 := n1) (n2 := n2) hn0 hn1 hn2 hb0 hb1 hb2
      refine P_callV_o (pc := 84) (S := []) (As := [_]) kc dX2_accept_84 ok_X2_acceptSign ml_X2_56 iv_X2_acceptSign ⟨by decide, by decide⟩ (zret_b (aOg s n0 n1 n2)) rfl ⟨rfl, by decide⟩ sh_3_o ⟨by decide, rfl⟩ (Nat.le_of_ble_eq_true rfl) ?_
      refine P_iret_o (pc := 87) dX2_accept_87 ?_
      have hz : zAcc s f c n0 n1 n2 = if aOg s n0 n1 n2 = true then some (dG s n0 n1 n2, false) else none := by unfold zAcc; rw [if_neg h3, if_neg hc115, if_pos hc103]
      rw [hz]
      refine ⟨zb_some, rfl, fun a h3 h4 h5 => (hK1 a h5).trans (zu_o _ _ h3), (congrFun (hK1 3 (by decide)) 1).trans rfl, fun q hq => ?_⟩
      by_cases hk : aOg s n0 n1 n2 = true
      · rw [if_pos hk] at hq; cases hq; exact ⟨hK2 (of_decide_eq_true hk), (congrFun (hK1 3 (by decide)) 2).trans rfl⟩
      · rw [if_neg hk] at hq; cases hq
    by_cases hc119 : c = 119
    · refine P_lookup_o (pc := 33) (off := 55) (tgt := 88) dX2_accept_33 (by decide) (by rw [hc119]; decide) (by decide) ?_
      refine P_aload_n_o (pc := 88) dX2_accept_88 rfl ?_
      refine P_aload_n_o (pc := 89) dX2_accept_89 rfl ?_
      obtain ⟨_, K, _, kc, rfl, rfl, hK1, hK2⟩ := c_acceptWalker_36_o (l := l) (D := D) (tw := tw) (I := zu I 3 2 (nI 0)) (hD.eq (fun a h1 h2 => zu_o _ _ (by omega))) hO (n0 := n0) (n1 := n1) (n2 := n2) hn0 hn1 hn2 hb0 hb1 hb2
      refine P_callV_o (pc := 90) (S := []) (As := [_]) kc dX2_accept_90 ok_X2_acceptWalker ml_X2_59 iv_X2_acceptWalker ⟨by decide, by decide⟩ (zret_b (aOw s n0 n1 n2)) rfl ⟨rfl, by decide⟩ sh_3_o ⟨by decide, rfl⟩ (Nat.le_of_ble_eq_true rfl) ?_
      refine P_iret_o (pc := 93) dX2_accept_93 ?_
      have hz : zAcc s f c n0 n1 n2 = if aOw s n0 n1 n2 = true then some (dW s n0 n1 n2, false) else none := by unfold zAcc; rw [if_neg h3, if_neg hc115, if_neg hc103, if_pos hc119]
      rw [hz]
      refine ⟨zb_some, rfl, fun a h3 h4 h5 => (hK1 a h5).trans (zu_o _ _ h3), (congrFun (hK1 3 (by decide)) 1).trans rfl, fun q hq => ?_⟩
      by_cases hk : aOw s n0 n1 n2 = true
      · rw [if_pos hk] at hq; cases hq; exact ⟨hK2 (of_decide_eq_true hk), (congrFun (hK1 3 (by decide)) 2).trans rfl⟩
      · rw [if_neg hk] at hq; cases hq
    by_cases hc114 : c = 114
    · refine P_lookup_o (pc := 33) (off := 61) (tgt := 94) dX2_accept_33 (by decide) (by rw [hc114]; decide) (by decide) ?_
      refine P_aload_n_o (pc := 94) dX2_accept_94 rfl ?_
      refine P_aload_n_o (pc := 95) dX2_accept_95 rfl ?_
      obtain ⟨_, K, _, kc, rfl, rfl, hK1, hK2⟩ := c_acceptRates_36_o (l := l) (D := D) (tw := tw) (I := zu I 3 2 (nI 0)) (hD.eq (fun a h1 h2 => zu_o _ _ (by omega))) hO (n0 := n0) (n1 := n1) (n2 := n2) hn0 hn1 hn2 hb0 hb1 hb2
      refine P_callV_o (pc := 96) (S := []) (As := [_]) kc dX2_accept_96 ok_X2_acceptRates ml_X2_62 iv_X2_acceptRates ⟨by decide, by decide⟩ (zret_b (aOr n0 n1 n2)) rfl ⟨rfl, by decide⟩ sh_3_o ⟨by decide, rfl⟩ (Nat.le_of_ble_eq_true rfl) ?_
      refine P_iret_o (pc := 99) dX2_accept_99 ?_
      have hz : zAcc s f c n0 n1 n2 = if aOr n0 n1 n2 = true then some (dR s n0 n1 n2, false) else none := by unfold zAcc; rw [if_neg h3, if_neg hc115, if_neg hc103, if_neg hc119, if_pos hc114]
      rw [hz]
      refine ⟨zb_some, rfl, fun a h3 h4 h5 => (hK1 a h5).trans (zu_o _ _ h3), (congrFun (hK1 3 (by decide)) 1).trans rfl, fun q hq => ?_⟩
      by_cases hk : aOr n0 n1 n2 = true
      · rw [if_pos hk] at hq; cases hq; exact ⟨hK2 (of_decide_eq_true hk), (congrFun (hK1 3 (by decide)) 2).trans rfl⟩
      · rw [if_neg hk] at hq; cases hq
    refine P_lookup_o (pc := 33) (off := 67) (tgt := 100) dX2_accept_33 (by decide) (lk_d (fun q hq => by show q.1 ≠ (nI c).toInt; rw [nI_toInt (by omega)]; simp only [List.mem_cons, List.mem_nil_iff, or_false] at hq; rcases hq with rfl | rfl | rfl | rfl <;> (simp only [ne_eq]; omega))) (by decide) ?_
    refine P_iconst_o (pc := 100) (x := nI 0) dX2_accept_100 (by decide) ?_
    refine P_iret_o (pc := 101) dX2_accept_101 ?_
    have hz : zAcc s f c n0 n1 n2 = none := by unfold zAcc; rw [if_neg h3, if_neg hc115, if_neg hc103, if_neg hc119, if_neg hc114]
    exact ⟨by rw [hz]; rfl, rfl, fun a h3 h4 h5 => zu_o _ _ h3, rfl, fun q hq => by rw [hz] at hq; cases hq⟩
  · have h3c : c = 99 := by omega
    refine P_aload_n_o (pc := 6) dX2_accept_6 rfl ?_
    refine P_geti_o (pc := 7) 2 2 (x := zb (f)) dX2_accept_7 fl_X2_24 sh_3_o fi_2_2 (hf) ?_
    refine P_if_eqB_o (pc := 10) (tgt := 25) dX2_accept_10 (by decide) (fun h10 => ?_) (fun h10 => ?_)
    · refine P_iconst_o (pc := 25) (x := nI 0) dX2_accept_25 (by decide) ?_
      refine P_iret_o (pc := 26) dX2_accept_26 ?_
      have hz : zAcc s f c n0 n1 n2 = none := by unfold zAcc; rw [if_pos h3c, h10]; rfl
      exact ⟨by rw [hz]; rfl, rfl, fun _ _ _ _ => rfl, rfl, fun q hq => by rw [hz] at hq; cases hq⟩
    · refine P_aload_n_o (pc := 13) dX2_accept_13 rfl ?_
      refine P_aload_n_o (pc := 14) dX2_accept_14 rfl ?_
      obtain ⟨_, K, _, kc, rfl, rfl, hK1, hK2⟩ := c_acceptCorners_36_o (l := l) (D := D) (tw := tw) (I := I) hD hO (n0 := n0) hn0 hb0
      refine P_callV_o (pc := 15) (S := []) (As := [_]) kc dX2_accept_15 ok_X2_acceptCorners ml_X2_49 iv_X2_acceptCorners ⟨by decide, by decide⟩ (zret_b (aOc n0)) rfl ⟨rfl, by decide⟩ sh_3_o ⟨by decide, rfl⟩ (Nat.le_of_ble_eq_true rfl) ?_
      refine P_if_eqB_o (pc := 18) (tgt := 25) dX2_accept_18 (by decide) (fun h18 => ?_) (fun h18 => ?_)
      · refine P_iconst_o (pc := 25) (x := nI 0) dX2_accept_25 (by decide) ?_
        refine P_iret_o (pc := 26) dX2_accept_26 ?_
        have hz : zAcc s f c n0 n1 n2 = none := by have h18b : aOc n0 = false := h18; unfold zAcc; rw [if_pos h3c, h10, h18b]; rfl
        exact ⟨by rw [hz]; rfl, rfl, fun a h3 h4 h5 => hK1 a h5, congrFun (hK1 3 (by decide)) 1, fun q hq => by rw [hz] at hq; cases hq⟩
      · refine P_iconst_o (pc := 21) (x := nI 1) dX2_accept_21 (by decide) ?_
        refine P_goto_o (pc := 22) (tgt := 26) dX2_accept_22 (by decide) ?_
        refine P_iret_o (pc := 26) dX2_accept_26 ?_
        have hz : zAcc s f c n0 n1 n2 = some (dC s n0, f) := by have h18b : aOc n0 = true := h18; unfold zAcc; rw [if_pos h3c, h10, h18b]; rfl
        exact ⟨by rw [hz]; rfl, rfl, fun a h3 h4 h5 => hK1 a h5, congrFun (hK1 3 (by decide)) 1, fun q hq => by rw [hz] at hq; cases hq; exact ⟨hK2 (of_decide_eq_true h18), (congrFun (hK1 3 (by decide)) 2).trans hf⟩⟩
set_option maxRecDepth 20000 in
theorem c_readInto_36_o {l : Launch} {D : va_G} {tw : Nat} {I : AI} {s0 : Nat → Nat → Nat} (hX : CTx (s0 110) (s0 109 1) I) : ZP_o l D zm_X2_readInto 0 (zent 6 [.ref 3, .ref 36, .ref 1]) [] I (zF_o tw) (fun v J G => v = some (aFault s0) ∧ G = zF_o tw ∧ zAf 36 I J ∧ ∀ s3, zPar 201 (sIni s0) true 0 = .inr s3 → DrC s3 J 36 ∧ ∃ f3, DrF s3 f3) := by
  have ht := hX.2.1
  have loop : ∀ (d k : Nat) (s : Nat → Nat → Nat) (f : Bool) (p : Nat) (v4 v5 : Option Value) (J : AI), 201 - k < d → k ≤ 200 → k ≤ p → p ≤ 300 → s 110 = s0 110 → s 109 1 = s0 109 1 → zAf 36 I J → J 3 1 = nI p → J 3 2 = zb f → DrC s J 36 → DrF s f → zPar (201 - k) s f p = zPar 201 (sIni s0) true 0 → ZP_o l D zm_X2_readInto 16 [some (.ref 3), some (.ref 36), some (.ref 1), some (.int (nI k)), v4, v5] [] J (zF_o tw) (fun v J G => v = some (aFault s0) ∧ G = zF_o tw ∧ zAf 36 I J ∧ ∀ s3, zPar 201 (sIni s0) true 0 = .inr s3 → DrC s3 J 36 ∧ ∃ f3, DrF s3 f3) := by
    intro d
    induction d with
    | zero =>
      intro k s f p v4 v5 J hd
      exact absurd hd (by omega)
    | succ d ih =>
      intro k s f p v4 v5 J hd hk hkp hp3 hs0 hs1 hA hp hf hDr hO hpar
      refine P_iload_n_o (pc := 16) dX2_readInto_16 rfl ?_
      refine P_sipush_o (pc := 17) (x := nI 200) dX2_readInto_17 (by decide) ?_
      refine P_icmp_geN_o (pc := 20) (tgt := 99) dX2_readInto_20 (by decide) (by omega) (by omega) (fun h20 => ?_) (fun h20 => ?_)
      · refine P_bipush_o (pc := 99) (x := (-4)) dX2_readInto_99 (by decide) ?_
        refine P_iret_o (pc := 101) dX2_readInto_101 ?_
        have hz : zPar 201 (sIni s0) true 0 = .inr s := by rw [← hpar, show 201 - k = (200 - k) + 1 by omega, zPar, if_neg (by omega)]
        exact ⟨by unfold aFault; rw [hz], rfl, hA, fun s3 h => by rw [hz] at h; cases h; exact ⟨hDr, f, hO⟩⟩
      · refine P_aload_n_o (pc := 23) dX2_readInto_23 rfl ?_
        refine P_geti_o (pc := 24) 2 1 (x := nI (p)) dX2_readInto_24 fl_X2_20 sh_3_o fi_2_1 (hp) ?_
        refine P_aload_n_o (pc := 27) dX2_readInto_27 rfl ?_
        refine P_geti_o (pc := 28) 7 1 (x := nI (s 109 1)) dX2_readInto_28 fl_X2_28 sh_1_o fi_7_1 ((congrFun (hA 1 (by decide) (by decide) (by decide)) 1).trans (by rw [hs1]; exact hX.1)) ?_
        refine P_icmp_geN_o (pc := 31) (tgt := 99) dX2_readInto_31 (by decide) (by omega) (by omega) (fun h31 => ?_) (fun h31 => ?_)
        · refine P_bipush_o (pc := 99) (x := (-4)) dX2_readInto_99 (by decide) ?_
          refine P_iret_o (pc := 101) dX2_readInto_101 ?_
          have hz : zPar 201 (sIni s0) true 0 = .inr s := by rw [← hpar, show 201 - k = (200 - k) + 1 by omega, zPar, if_neg (by omega)]
          exact ⟨by unfold aFault; rw [hz], rfl, hA, fun s3 h => by rw [hz] at h; cases h; exact ⟨hDr, f, hO⟩⟩
        · refine P_aload_n_o (pc := 34) dX2_readInto_34 rfl ?_
          refine P_geti_o (pc := 35) 2 1 (x := nI (p)) dX2_readInto_35 fl_X2_20 sh_3_o fi_2_1 (hp) ?_
          refine P_istore_o (pc := 38) dX2_readInto_38 (by decide) rfl ?_
          refine P_aload_n_o (pc := 40) dX2_readInto_40 rfl ?_
          refine P_aload_n_o (pc := 41) dX2_readInto_41 rfl ?_
          refine P_geti_o (pc := 42) 2 1 (x := nI (p)) dX2_readInto_42 fl_X2_20 sh_3_o fi_2_1 (hp) ?_
          have hXJ : CTx (s 110) (s 109 1) J := by rw [hs0, hs1]; exact (hX.eq (hA 1 (by decide) (by decide) (by decide)) (hA 2 (by decide) (by decide) (by decide)))
          obtain ⟨_, _, _, kl, rfl, rfl, rfl⟩ := c_letterAt_o (l := l) (D := D) (tw := tw) (I := J) hXJ (p := p) (by omega)
          refine P_callV_o (pc := 45) (S := []) (As := [_]) kl dX2_readInto_45 ok_X7_letterAt ml_X2_33 iv_X7_letterAt ⟨by decide, by decide⟩ (zret_i _) rfl ⟨rfl, by decide⟩ sh_1_o ⟨by decide, rfl⟩ (Nat.le_of_ble_eq_true rfl) ?_
          have hch : zCh (s 110) (s 109 1) p = some (s 110 p) := by unfold zCh; rw [if_pos (by omega)]
          rw [hch]
          have hlc : s 110 p ≤ 126 := zCh_lt (fun k hk => (hXJ.2.2 k hk).2) hch
          refine P_istore_o (pc := 48) dX2_readInto_48 (by decide) rfl ?_
          refine P_aload_n_o (pc := 50) dX2_readInto_50 rfl ?_
          refine P_dup_o (pc := 51) dX2_readInto_51 rfl ?_
          refine P_geti_o (pc := 52) 2 1 (x := nI (p)) dX2_readInto_52 fl_X2_20 sh_3_o fi_2_1 (hp) ?_
          refine P_iconst_o (pc := 55) (x := nI 1) dX2_readInto_55 (by decide) ?_
          refine P_iaddN_o (pc := 56) dX2_readInto_56 ?_
          refine P_puti_o (pc := 57) 2 1 dX2_readInto_57 fl_X2_20 sh_3_o fp_2_1 rfl rfl ?_
          refine P_aload_n_o (pc := 60) dX2_readInto_60 rfl ?_
          refine P_aload_n_o (pc := 61) dX2_readInto_61 rfl ?_
          refine P_iload_o (pc := 62) dX2_readInto_62 rfl ?_
          refine P_bipush_o (pc := 64) (x := nI 99) dX2_readInto_64 (by decide) ?_
          refine P_icmp_neN_o (pc := 66) (tgt := 73) dX2_readInto_66 (by decide) (by omega) (by omega) (fun h66 => ?_) (fun h66 => ?_)
          · refine P_iconst_o (pc := 73) (x := nI 3) dX2_readInto_73 (by decide) ?_
            obtain ⟨_, K, _, kn, rfl, rfl, hK1, hK2⟩ := c_readNumbers_3_o (l := l) (D := D) (tw := tw) (I := zu J 3 1 (nI (p + 1))) (s := s) (p := p + 1) (hXJ.rr zRr.rf.u3) rfl (by omega)
            refine P_callV_o (pc := 74) (S := []) (As := [_, _]) kn dX2_readInto_74 ok_X2_readNumbers ml_X2_37 iv_X2_readNumbers ⟨by decide, by decide⟩ (zret_b ((zRk (s 110) (s 109 1) (p + 1) 44 && (zRk (s 110) (s 109 1) (zn1 s (p + 1)) 44 && zRk (s 110) (s 109 1) (zn1 s (zn1 s (p + 1))) 59)))) rfl ⟨rfl, by decide⟩ sh_3_o ⟨by decide, rfl⟩ (Nat.le_of_ble_eq_true rfl) ?_
            refine P_if_eqB_o (pc := 77) (tgt := 90) dX2_readInto_77 (by decide) (fun h77 => ?_) (fun h77 => ?_)
            · refine P_iload_o (pc := 90) dX2_readInto_90 rfl ?_
              refine P_iret_o (pc := 92) dX2_readInto_92 ?_
              have hit : zItem s f p = none := by rw [zItem_acc hO, if_neg h66, if_neg (by rw [h77]; decide)]
              have hz : zPar 201 (sIni s0) true 0 = .inl p := by rw [← hpar, show 201 - k = (200 - k) + 1 by omega, zPar, if_pos (by omega), hit]
              exact ⟨by unfold aFault; rw [hz], rfl, (fun a h3 h4 h5 => (hK1.1 a h3 h4).trans ((zu_o _ _ h3).trans (hA a h3 h4 h5))), fun s3 h => by rw [hz] at h; cases h⟩
            · refine P_aload_n_o (pc := 80) dX2_readInto_80 rfl ?_
              refine P_iload_o (pc := 81) dX2_readInto_81 rfl ?_
              refine P_aload_n_o (pc := 83) dX2_readInto_83 rfl ?_
              have hDK : DrC s K 36 := hDr.eq (fun a h1 h2 => (hK1.1 a (by omega) (by omega)).trans (zu_o _ _ (by omega)))
              have hfK : K 3 2 = zb f := hK1.2.trans hf
              obtain ⟨_, Q, _, kq, rfl, rfl, hQ1, hQ2, hQ3⟩ := c_accept_36_o (l := l) (D := D) (tw := tw) (I := K) hDK hO hfK (c := s 110 p) (n0 := zv1 s (p + 1)) (n1 := zv1 s (zn1 s (p + 1))) (n2 := zv1 s (zn1 s (zn1 s (p + 1)))) hlc (hK2 h77).1 (fun _ => ⟨(hK2 h77).2.1, (hK2 h77).2.2.1⟩) (zNum_le _ _ _).2 (zNum_le _ _ _).2 (zNum_le _ _ _).2
              refine P_callV_o (pc := 84) (S := []) (As := [_, _]) kq dX2_readInto_84 ok_X2_accept ml_X2_41 iv_X2_accept ⟨by decide, by decide⟩ (zret_b ((zAcc s f (s 110 p) (zv1 s (p + 1)) (zv1 s (zn1 s (p + 1))) (zv1 s (zn1 s (zn1 s (p + 1))))).isSome)) rfl ⟨rfl, by decide⟩ sh_3_o ⟨by decide, rfl⟩ (Nat.le_of_ble_eq_true rfl) ?_
              refine P_if_neB_o (pc := 87) (tgt := 93) dX2_readInto_87 (by decide) (fun h87 => ?_) (fun h87 => ?_)
              · refine P_iincN_o (pc := 93) (c := 1) dX2_readInto_93 rfl (by decide) (by decide) rfl ?_
                refine P_goto_o (pc := 96) (tgt := 16) dX2_readInto_96 (by decide) ?_
                obtain ⟨q, hq⟩ := Option.isSome_iff_exists.mp h87
                have hit : zItem s f p = some (q.1, zq3 s p, q.2) := by rw [zItem_acc hO, if_neg h66, if_pos h77]; rw [hq]; rfl
                have hok := zItem_ok hO hit
                have hsc : q.1 110 = s 110 ∧ q.1 109 1 = s 109 1 := ⟨funext fun j => hok.2.2 110 j rfl, hok.2.2 109 1 rfl⟩
                refine ih (k + 1) q.1 q.2 (zq3 s p) _ _ Q (by omega) (by omega) ?_ ?_ (hsc.1.trans hs0) (hsc.2.trans hs1) (fun a h3 h4 h5 => (hQ1 a h3 h4 h5).trans ((hK1.1 a h3 h4).trans ((zu_o _ _ h3).trans (hA a h3 h4 h5)))) (hQ2.trans (hK2 h77).2.2.2) (hQ3 q hq).2 (hQ3 q hq).1 hok.1 ?_
                · have := hok.2.1.1; simp only [] at this; omega
                · have := hok.2.1.2; simp only [] at this; omega
                · rw [← hpar, show 201 - k = (201 - (k + 1)) + 1 by omega, zPar, if_pos (by omega), hit]
              · refine P_iload_o (pc := 90) dX2_readInto_90 rfl ?_
                refine P_iret_o (pc := 92) dX2_readInto_92 ?_
                have hit : zItem s f p = none := by have hzn : zAcc s f (s 110 p) (zv1 s (p + 1)) (zv1 s (zn1 s (p + 1))) (zv1 s (zn1 s (zn1 s (p + 1)))) = none := Option.not_isSome_iff_eq_none.mp (by rw [h87]; decide); rw [zItem_acc hO, if_neg h66, if_pos h77, hzn]; rfl
                have hz : zPar 201 (sIni s0) true 0 = .inl p := by rw [← hpar, show 201 - k = (200 - k) + 1 by omega, zPar, if_pos (by omega), hit]
                exact ⟨by unfold aFault; rw [hz], rfl, (fun a h3 h4 h5 => (hQ1 a h3 h4 h5).trans ((hK1.1 a h3 h4).trans ((zu_o _ _ h3).trans (hA a h3 h4 h5)))), fun s3 h => by rw [hz] at h; cases h⟩
          · refine P_iconst_o (pc := 69) (x := nI 1) dX2_readInto_69 (by decide) ?_
            refine P_goto_o (pc := 70) (tgt := 74) dX2_readInto_70 (by decide) ?_
            obtain ⟨_, K, _, kn, rfl, rfl, hK1, hK2⟩ := c_readNumbers_1_o (l := l) (D := D) (tw := tw) (I := zu J 3 1 (nI (p + 1))) (s := s) (p := p + 1) (hXJ.rr zRr.rf.u3) rfl (by omega)
            refine P_callV_o (pc := 74) (S := []) (As := [_, _]) kn dX2_readInto_74 ok_X2_readNumbers ml_X2_37 iv_X2_readNumbers ⟨by decide, by decide⟩ (zret_b (zRk (s 110) (s 109 1) (p + 1) 59)) rfl ⟨rfl, by decide⟩ sh_3_o ⟨by decide, rfl⟩ (Nat.le_of_ble_eq_true rfl) ?_
            refine P_if_eqB_o (pc := 77) (tgt := 90) dX2_readInto_77 (by decide) (fun h77 => ?_) (fun h77 => ?_)
            · refine P_iload_o (pc := 90) dX2_readInto_90 rfl ?_
              refine P_iret_o (pc := 92) dX2_readInto_92 ?_
              have hit : zItem s f p = none := by rw [zItem_acc hO, if_pos (by omega), if_neg (by rw [h77]; decide)]
              have hz : zPar 201 (sIni s0) true 0 = .inl p := by rw [← hpar, show 201 - k = (200 - k) + 1 by omega, zPar, if_pos (by omega), hit]
              exact ⟨by unfold aFault; rw [hz], rfl, (fun a h3 h4 h5 => (hK1.1 a h3 h4).trans ((zu_o _ _ h3).trans (hA a h3 h4 h5))), fun s3 h => by rw [hz] at h; cases h⟩
            · refine P_aload_n_o (pc := 80) dX2_readInto_80 rfl ?_
              refine P_iload_o (pc := 81) dX2_readInto_81 rfl ?_
              refine P_aload_n_o (pc := 83) dX2_readInto_83 rfl ?_
              have h66c : s 110 p = 99 := by omega
              have hDK : DrC s K 36 := hDr.eq (fun a h1 h2 => (hK1.1 a (by omega) (by omega)).trans (zu_o _ _ (by omega)))
              have hfK : K 3 2 = zb f := hK1.2.trans hf
              obtain ⟨_, Q, _, kq, rfl, rfl, hQ1, hQ2, hQ3⟩ := c_accept_36_o (l := l) (D := D) (tw := tw) (I := K) hDK hO hfK (c := s 110 p) (n0 := zv1 s (p + 1)) (n1 := 0) (n2 := 0) hlc (hK2 h77).1 (fun z => absurd h66c z) (zNum_le _ _ _).2 (by omega) (by omega)
              refine P_callV_o (pc := 84) (S := []) (As := [_, _]) kq dX2_readInto_84 ok_X2_accept ml_X2_41 iv_X2_accept ⟨by decide, by decide⟩ (zret_b ((zAcc s f (s 110 p) (zv1 s (p + 1)) 0 0).isSome)) rfl ⟨rfl, by decide⟩ sh_3_o ⟨by decide, rfl⟩ (Nat.le_of_ble_eq_true rfl) ?_
              refine P_if_neB_o (pc := 87) (tgt := 93) dX2_readInto_87 (by decide) (fun h87 => ?_) (fun h87 => ?_)
              · refine P_iincN_o (pc := 93) (c := 1) dX2_readInto_93 rfl (by decide) (by decide) rfl ?_
                refine P_goto_o (pc := 96) (tgt := 16) dX2_readInto_96 (by decide) ?_
                obtain ⟨q, hq⟩ := Option.isSome_iff_exists.mp h87
                have hit : zItem s f p = some (q.1, zn1 s (p + 1), q.2) := by rw [zItem_acc hO, if_pos h66c, if_pos h77]; rw [h66c] at hq; rw [hq]; rfl
                have hok := zItem_ok hO hit
                have hsc : q.1 110 = s 110 ∧ q.1 109 1 = s 109 1 := ⟨funext fun j => hok.2.2 110 j rfl, hok.2.2 109 1 rfl⟩
                refine ih (k + 1) q.1 q.2 (zn1 s (p + 1)) _ _ Q (by omega) (by omega) ?_ ?_ (hsc.1.trans hs0) (hsc.2.trans hs1) (fun a h3 h4 h5 => (hQ1 a h3 h4 h5).trans ((hK1.1 a h3 h4).trans ((zu_o _ _ h3).trans (hA a h3 h4 h5)))) (hQ2.trans (hK2 h77).2) (hQ3 q hq).2 (hQ3 q hq).1 hok.1 ?_
                · have := hok.2.1.1; simp only [] at this; omega
                · have := hok.2.1.2; simp only [] at this; omega
                · rw [← hpar, show 201 - k = (201 - (k + 1)) + 1 by omega, zPar, if_pos (by omega), hit]
              · refine P_iload_o (pc := 90) dX2_readInto_90 rfl ?_
                refine P_iret_o (pc := 92) dX2_readInto_92 ?_
                have hit : zItem s f p = none := by have hzn : zAcc s f (s 110 p) (zv1 s (p + 1)) 0 0 = none := Option.not_isSome_iff_eq_none.mp (by rw [h87]; decide); rw [h66c] at hzn; rw [zItem_acc hO, if_pos (by omega), if_pos h77, hzn]; rfl
                have hz : zPar 201 (sIni s0) true 0 = .inl p := by rw [← hpar, show 201 - k = (200 - k) + 1 by omega, zPar, if_pos (by omega), hit]
                exact ⟨by unfold aFault; rw [hz], rfl, (fun a h3 h4 h5 => (hQ1 a h3 h4 h5).trans ((hK1.1 a h3 h4).trans ((zu_o _ _ h3).trans (hA a h3 h4 h5)))), fun s3 h => by rw [hz] at h; cases h⟩
  show ZP_o _ _ _ _ [some _, some _, some _, none, none, none] _ _ _ _
  refine P_aload_n_o (pc := 0) dX2_readInto_0 rfl ?_
  obtain ⟨_, K, _, kc, rfl, rfl, hK1, hK2⟩ := c_tclear_36_o (l := l) (D := D) (tw := tw) (I := I) (s := s0)
  refine P_callV_o (pc := 1) (S := []) (As := []) kc dX2_readInto_1 ok_X8_clear ml_X2_15 iv_X8_clear ⟨by decide, by decide⟩ zret_v rfl ⟨rfl, by decide⟩ sh_36_o ⟨by decide, rfl⟩ (Nat.le_of_ble_eq_true rfl) ?_
  refine P_aload_n_o (pc := 4) dX2_readInto_4 rfl ?_
  refine P_iconst_o (pc := 5) (x := nI 0) dX2_readInto_5 (by decide) ?_
  refine P_puti_o (pc := 6) 2 1 dX2_readInto_6 fl_X2_20 sh_3_o fp_2_1 rfl rfl ?_
  refine P_aload_n_o (pc := 9) dX2_readInto_9 rfl ?_
  refine P_iconst_o (pc := 10) (x := nI 1) dX2_readInto_10 (by decide) ?_
  refine P_puti_o (pc := 11) 2 2 dX2_readInto_11 fl_X2_24 sh_3_o fp_2_2 (by decide) (by decide) ?_
  refine P_iconst_o (pc := 14) (x := nI 0) dX2_readInto_14 (by decide) ?_
  refine P_istore_n_o (pc := 15) dX2_readInto_15 (by decide) rfl ?_
  exact loop 202 0 (sIni s0) true 0 none none _ (by omega) (by omega) (by omega) (by omega) rfl rfl (fun a h3 h4 h5 => (zu_o _ _ h3).trans ((zu_o _ _ h3).trans (hK1 a h5))) rfl rfl (hK2.eq (fun a h1 h2 => (zu_o _ _ (by omega)).trans (zu_o _ _ (by omega)))) (sIni_ok s0) rfl
set_option maxRecDepth 20000 in
theorem c_chclear_o {l : Launch} {D : va_G} {tw : Nat} {I : AI}  : ZP_o l D zm_X0_clear 0 (zent 1 [.ref 74]) [] I (zF_o tw) (fun v J G => v = none ∧ G = zF_o tw ∧ J = zu (zu I 74 5 (nI 0)) 74 6 (nI 0)) := by
  show ZP_o _ _ _ _ [some _] _ _ _ _
  refine P_aload_n_o (pc := 0) dX0_clear_0 rfl ?_
  refine P_iconst_o (pc := 1) (x := nI 0) dX0_clear_1 (by decide) ?_
  refine P_puti_o (pc := 2) 0 5 dX0_clear_2 fl_X0_27 sh_74_o fp_0_5 rfl rfl ?_
  refine P_aload_n_o (pc := 5) dX0_clear_5 rfl ?_
  refine P_iconst_o (pc := 6) (x := nI 0) dX0_clear_6 (by decide) ?_
  refine P_puti_o (pc := 7) 0 6 dX0_clear_7 fl_X0_31 sh_74_o fp_0_6 rfl rfl ?_
  exact P_ret_o (pc := 10) dX0_clear_10 (⟨rfl, rfl, rfl⟩)
