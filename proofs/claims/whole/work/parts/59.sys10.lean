set_option maxRecDepth 20000 in
theorem c_readNumbers_1 {l : Launch} {D : va_G} {tw : Nat} {I : AI} {s : Nat → Nat → Nat} {p : Nat} (hX : CTx (s 110) (s 109 1) I) (hp : I 3 1 = nI p) (hp2 : p ≤ 1000) : ZP l D zm_X2_readNumbers 0 (zent 5 [.ref 3, .ref 1, .int (nI 1)]) [] I (zF tw) (fun v J G => v = some (zb (zRk (s 110) (s 109 1) p 59)) ∧ G = zF tw ∧ zRr I J ∧ ((zRk (s 110) (s 109 1) p 59) = true → J 4 0 = nI (zv1 s p) ∧ J 3 1 = nI (zn1 s p))) := by
  have z0 := zv1_le s p
  have z1 := zv1_le s (zn1 s p)
  have z2 := zv1_le s (zn1 s (zn1 s p))
  show ZP _ _ _ _ [some _, some _, some _, none, none] _ _ _ _
  refine P_iconst (pc := 0) (x := nI 0) dX2_readNumbers_0 (by decide) ?_
  refine P_istore_n (pc := 1) dX2_readNumbers_1 (by decide) rfl ?_
  refine P_iload_n (pc := 2) dX2_readNumbers_2 rfl ?_
  refine P_iload_n (pc := 3) dX2_readNumbers_3 rfl ?_
  refine P_icmp_geF (pc := 4) (tgt := 85) dX2_readNumbers_4 (by decide) (by decide) ?_
  refine P_iload_n (pc := 7) dX2_readNumbers_7 rfl ?_
  refine P_aload_n (pc := 8) dX2_readNumbers_8 rfl ?_
  refine P_getr (pc := 9) 2 0 dX2_readNumbers_9 fl_X2_9 sh_3 fr_2_0 F_3_0 ?_
  refine P_alen (pc := 12) (x := nI 3) dX2_readNumbers_12 sh_4 (by decide) (by decide) rfl ?_
  refine P_icmp_geF (pc := 13) (tgt := 85) dX2_readNumbers_13 (by decide) (by decide) ?_
  refine P_aload_n (pc := 16) dX2_readNumbers_16 rfl ?_
  refine P_getr (pc := 17) 2 0 dX2_readNumbers_17 fl_X2_9 sh_3 fr_2_0 F_3_0 ?_
  refine P_iload_n (pc := 20) dX2_readNumbers_20 rfl ?_
  refine P_aload_n (pc := 21) dX2_readNumbers_21 rfl ?_
  refine P_aload_n (pc := 22) dX2_readNumbers_22 rfl ?_
  obtain ⟨_, K0, _, kn0, rfl, rfl, a0, b0, c0⟩ := c_readNumber (l := l) (D := D) (tw := tw) (I := I) hX (p := p) hp (by omega)
  refine P_callV (pc := 23) (S := [_, _]) (As := [_]) kn0 dX2_readNumbers_23 ok_X2_readNumber ml_X2_45 iv_X2_readNumber ⟨by decide, by decide⟩ (zret_i _) rfl ⟨rfl, by decide⟩ sh_3 ⟨by decide, rfl⟩ (Nat.le_of_ble_eq_true rfl) ?_
  have rk0 : zRr I K0 := (⟨fun a h3 h4 => a0 a h3, b0⟩ : zRr I K0)
  by_cases hz0 : (zNum (s 110) (s 109 1) p).1 = 0
  · have hv0 : zNv (zNum (s 110) (s 109 1) p) = -4 := if_pos hz0
    rw [hv0]
    refine P_iast (pc := 26) (0) dX2_readNumbers_26 sh_4 rfl (by omega) (by decide) ?_
    refine P_iload_n (pc := 27) dX2_readNumbers_27 rfl ?_
    refine P_iconst (pc := 28) (x := nI 1) dX2_readNumbers_28 (by decide) ?_
    refine P_iaddN (pc := 29) dX2_readNumbers_29 ?_
    refine P_iload_n (pc := 30) dX2_readNumbers_30 rfl ?_
    refine P_icmp_geT (pc := 31) (tgt := 39) dX2_readNumbers_31 (by decide) (by decide) ?_
    refine P_bipush (pc := 39) (x := nI 59) dX2_readNumbers_39 (by decide) ?_
    refine P_istore (pc := 41) dX2_readNumbers_41 (by decide) rfl ?_
    refine P_aload_n (pc := 43) dX2_readNumbers_43 rfl ?_
    refine P_getr (pc := 44) 2 0 dX2_readNumbers_44 fl_X2_9 sh_3 fr_2_0 F_3_0 ?_
    refine P_iload_n (pc := 47) dX2_readNumbers_47 rfl ?_
    refine P_iald (pc := 48) (0) (x := (-4)) dX2_readNumbers_48 sh_4 rfl (by omega) (by decide) (zu_s _ _ _ _) ?_
    refine P_bipush (pc := 49) (x := (-4)) dX2_readNumbers_49 (by decide) ?_
    refine P_icmp_eqT (pc := 51) (tgt := 67) dX2_readNumbers_51 (by decide) rfl ?_
    refine P_iconst (pc := 67) (x := nI 0) dX2_readNumbers_67 (by decide) ?_
    refine P_iret (pc := 68) dX2_readNumbers_68 ?_
    have f0 : zRk (s 110) (s 109 1) p 59 = false := zRk_0 hz0
    have fa : (zRk (s 110) (s 109 1) p 59) = false := by rw [f0] <;> rfl
    refine ⟨by rw [fa]; rfl, rfl, rk0.u4, fun z => by rw [fa] at z; cases z⟩
  · have hv0 : zNv (zNum (s 110) (s 109 1) p) = nI (zv1 s p) := if_neg hz0
    rw [hv0]
    have hl0 := zNum_le (s 110) (s 109 1) p
    refine P_iast (pc := 26) (0) dX2_readNumbers_26 sh_4 rfl (by omega) (by decide) ?_
    refine P_iload_n (pc := 27) dX2_readNumbers_27 rfl ?_
    refine P_iconst (pc := 28) (x := nI 1) dX2_readNumbers_28 (by decide) ?_
    refine P_iaddN (pc := 29) dX2_readNumbers_29 ?_
    refine P_iload_n (pc := 30) dX2_readNumbers_30 rfl ?_
    refine P_icmp_geT (pc := 31) (tgt := 39) dX2_readNumbers_31 (by decide) (by decide) ?_
    refine P_bipush (pc := 39) (x := nI 59) dX2_readNumbers_39 (by decide) ?_
    refine P_istore (pc := 41) dX2_readNumbers_41 (by decide) rfl ?_
    refine P_aload_n (pc := 43) dX2_readNumbers_43 rfl ?_
    refine P_getr (pc := 44) 2 0 dX2_readNumbers_44 fl_X2_9 sh_3 fr_2_0 F_3_0 ?_
    refine P_iload_n (pc := 47) dX2_readNumbers_47 rfl ?_
    refine P_iald (pc := 48) (0) (x := nI (zv1 s p)) dX2_readNumbers_48 sh_4 rfl (by omega) (by decide) (zu_s _ _ _ _) ?_
    refine P_bipush (pc := 49) (x := (-4)) dX2_readNumbers_49 (by decide) ?_
    refine P_icmp_eqF (pc := 51) (tgt := 67) dX2_readNumbers_51 (by decide) (zne4 (by omega)) ?_
    refine P_aload_n (pc := 54) dX2_readNumbers_54 rfl ?_
    refine P_aload_n (pc := 55) dX2_readNumbers_55 rfl ?_
    refine P_geti (pc := 56) 2 1 (x := nI (zNe (s 110) (s 109 1) p)) dX2_readNumbers_56 fl_X2_20 sh_3 fi_2_1 (c0) ?_
    obtain ⟨_, _, _, kl0, rfl, rfl, rfl⟩ := c_letterAt (l := l) (D := D) (tw := tw) (I := zu K0 4 0 (nI (zv1 s p))) (hX.rr rk0.u4) (p := zNe (s 110) (s 109 1) p) (by show p + (zNum (s 110) (s 109 1) p).1 < _; omega)
    refine P_callV (pc := 59) (S := []) (As := [_]) kl0 dX2_readNumbers_59 ok_X7_letterAt ml_X2_33 iv_X7_letterAt ⟨by decide, by decide⟩ (zret_i _) rfl ⟨rfl, by decide⟩ sh_1 ⟨by decide, rfl⟩ (Nat.le_of_ble_eq_true rfl) ?_
    refine P_iload (pc := 62) dX2_readNumbers_62 rfl ?_
    refine P_icmp_eq (pc := 64) (tgt := 69) dX2_readNumbers_64 (by decide) (fun h64 => ?_) (fun h64 => ?_)
    · have t0 : zRk (s 110) (s 109 1) p 59 = true := zRk_t hz0 ((zo_chr4 (by decide) (fun c e => by have := zCh_lt (fun k hk => (hX.2.2 k hk).2) e; omega)).mp h64)
      refine P_aload_n (pc := 69) dX2_readNumbers_69 rfl ?_
      refine P_dup (pc := 70) dX2_readNumbers_70 rfl ?_
      refine P_geti (pc := 71) 2 1 (x := nI (zNe (s 110) (s 109 1) p)) dX2_readNumbers_71 fl_X2_20 sh_3 fi_2_1 (c0) ?_
      refine P_iconst (pc := 74) (x := nI 1) dX2_readNumbers_74 (by decide) ?_
      refine P_iaddN (pc := 75) dX2_readNumbers_75 ?_
      refine P_puti (pc := 76) 2 1 dX2_readNumbers_76 fl_X2_20 sh_3 fp_2_1 rfl rfl ?_
      refine P_iincN (pc := 79) (c := 1) dX2_readNumbers_79 rfl (by decide) (by decide) rfl ?_
      refine P_goto (pc := 82) (tgt := 2) dX2_readNumbers_82 (by decide) ?_
      obtain ⟨M1, hM1⟩ : ∃ M, M = zu (zu K0 4 0 (nI (zv1 s p))) 3 1 (nI (zn1 s p)) := ⟨_, rfl⟩
      have r1 : zRr I M1 := by rw [hM1]; exact (rk0.u4).u3
      have q1 : M1 3 1 = nI (zn1 s p) := by rw [hM1]; rfl
      have g0_1 : M1 4 0 = nI (zv1 s p) := by rw [hM1]; rfl
      show ZP l D zm_X2_readNumbers 2 [some (.ref 3), some (.ref 1), some (.int (nI 1)), some (.int (nI 1)), some (.int (nI 59))] [] (zu (zu K0 4 0 (nI (zv1 s p))) 3 1 (nI (zn1 s p))) (zF tw) _
      rw [← hM1]
      refine P_iload_n (pc := 2) dX2_readNumbers_2 rfl ?_
      refine P_iload_n (pc := 3) dX2_readNumbers_3 rfl ?_
      refine P_icmp_geT (pc := 4) (tgt := 85) dX2_readNumbers_4 (by decide) (by decide) ?_
      refine P_iconst (pc := 85) (x := nI 1) dX2_readNumbers_85 (by decide) ?_
      refine P_iret (pc := 86) dX2_readNumbers_86 ?_
      refine ⟨by rw [t0]; rfl, rfl, r1, fun _ => ⟨g0_1, q1⟩⟩
    · refine P_iconst (pc := 67) (x := nI 0) dX2_readNumbers_67 (by decide) ?_
      refine P_iret (pc := 68) dX2_readNumbers_68 ?_
      have f0 : zRk (s 110) (s 109 1) p 59 = false := zRk_f (fun z => h64 ((zo_chr4 (by decide) (fun c e => by have := zCh_lt (fun k hk => (hX.2.2 k hk).2) e; omega)).mpr z))
      have fa : (zRk (s 110) (s 109 1) p 59) = false := by rw [f0] <;> rfl
      refine ⟨by rw [fa]; rfl, rfl, rk0.u4, fun z => by rw [fa] at z; cases z⟩
set_option maxRecDepth 20000 in
theorem c_readNumbers_3 {l : Launch} {D : va_G} {tw : Nat} {I : AI} {s : Nat → Nat → Nat} {p : Nat} (hX : CTx (s 110) (s 109 1) I) (hp : I 3 1 = nI p) (hp2 : p ≤ 1000) : ZP l D zm_X2_readNumbers 0 (zent 5 [.ref 3, .ref 1, .int (nI 3)]) [] I (zF tw) (fun v J G => v = some (zb ((zRk (s 110) (s 109 1) p 44 && (zRk (s 110) (s 109 1) (zn1 s p) 44 && zRk (s 110) (s 109 1) (zn1 s (zn1 s p)) 59)))) ∧ G = zF tw ∧ zRr I J ∧ (((zRk (s 110) (s 109 1) p 44 && (zRk (s 110) (s 109 1) (zn1 s p) 44 && zRk (s 110) (s 109 1) (zn1 s (zn1 s p)) 59))) = true → J 4 0 = nI (zv1 s p) ∧ J 4 1 = nI (zv1 s (zn1 s p)) ∧ J 4 2 = nI (zv1 s (zn1 s (zn1 s p))) ∧ J 3 1 = nI (zn1 s (zn1 s (zn1 s p))))) := by
  have z0 := zv1_le s p
  have z1 := zv1_le s (zn1 s p)
  have z2 := zv1_le s (zn1 s (zn1 s p))
  show ZP _ _ _ _ [some _, some _, some _, none, none] _ _ _ _
  refine P_iconst (pc := 0) (x := nI 0) dX2_readNumbers_0 (by decide) ?_
  refine P_istore_n (pc := 1) dX2_readNumbers_1 (by decide) rfl ?_
  refine P_iload_n (pc := 2) dX2_readNumbers_2 rfl ?_
  refine P_iload_n (pc := 3) dX2_readNumbers_3 rfl ?_
  refine P_icmp_geF (pc := 4) (tgt := 85) dX2_readNumbers_4 (by decide) (by decide) ?_
  refine P_iload_n (pc := 7) dX2_readNumbers_7 rfl ?_
  refine P_aload_n (pc := 8) dX2_readNumbers_8 rfl ?_
  refine P_getr (pc := 9) 2 0 dX2_readNumbers_9 fl_X2_9 sh_3 fr_2_0 F_3_0 ?_
  refine P_alen (pc := 12) (x := nI 3) dX2_readNumbers_12 sh_4 (by decide) (by decide) rfl ?_
  refine P_icmp_geF (pc := 13) (tgt := 85) dX2_readNumbers_13 (by decide) (by decide) ?_
  refine P_aload_n (pc := 16) dX2_readNumbers_16 rfl ?_
  refine P_getr (pc := 17) 2 0 dX2_readNumbers_17 fl_X2_9 sh_3 fr_2_0 F_3_0 ?_
  refine P_iload_n (pc := 20) dX2_readNumbers_20 rfl ?_
  refine P_aload_n (pc := 21) dX2_readNumbers_21 rfl ?_
  refine P_aload_n (pc := 22) dX2_readNumbers_22 rfl ?_
  obtain ⟨_, K0, _, kn0, rfl, rfl, a0, b0, c0⟩ := c_readNumber (l := l) (D := D) (tw := tw) (I := I) hX (p := p) hp (by omega)
  refine P_callV (pc := 23) (S := [_, _]) (As := [_]) kn0 dX2_readNumbers_23 ok_X2_readNumber ml_X2_45 iv_X2_readNumber ⟨by decide, by decide⟩ (zret_i _) rfl ⟨rfl, by decide⟩ sh_3 ⟨by decide, rfl⟩ (Nat.le_of_ble_eq_true rfl) ?_
  have rk0 : zRr I K0 := (⟨fun a h3 h4 => a0 a h3, b0⟩ : zRr I K0)
  by_cases hz0 : (zNum (s 110) (s 109 1) p).1 = 0
  · have hv0 : zNv (zNum (s 110) (s 109 1) p) = -4 := if_pos hz0
    rw [hv0]
    refine P_iast (pc := 26) (0) dX2_readNumbers_26 sh_4 rfl (by omega) (by decide) ?_
    refine P_iload_n (pc := 27) dX2_readNumbers_27 rfl ?_
    refine P_iconst (pc := 28) (x := nI 1) dX2_readNumbers_28 (by decide) ?_
    refine P_iaddN (pc := 29) dX2_readNumbers_29 ?_
    refine P_iload_n (pc := 30) dX2_readNumbers_30 rfl ?_
    refine P_icmp_geF (pc := 31) (tgt := 39) dX2_readNumbers_31 (by decide) (by decide) ?_
    refine P_bipush (pc := 34) (x := nI 44) dX2_readNumbers_34 (by decide) ?_
    refine P_goto (pc := 36) (tgt := 41) dX2_readNumbers_36 (by decide) ?_
    refine P_istore (pc := 41) dX2_readNumbers_41 (by decide) rfl ?_
    refine P_aload_n (pc := 43) dX2_readNumbers_43 rfl ?_
    refine P_getr (pc := 44) 2 0 dX2_readNumbers_44 fl_X2_9 sh_3 fr_2_0 F_3_0 ?_
    refine P_iload_n (pc := 47) dX2_readNumbers_47 rfl ?_
    refine P_iald (pc := 48) (0) (x := (-4)) dX2_readNumbers_48 sh_4 rfl (by omega) (by decide) (zu_s _ _ _ _) ?_
    refine P_bipush (pc := 49) (x := (-4)) dX2_readNumbers_49 (by decide) ?_
    refine P_icmp_eqT (pc := 51) (tgt := 67) dX2_readNumbers_51 (by decide) rfl ?_
    refine P_iconst (pc := 67) (x := nI 0) dX2_readNumbers_67 (by decide) ?_
    refine P_iret (pc := 68) dX2_readNumbers_68 ?_
    have f0 : zRk (s 110) (s 109 1) p 44 = false := zRk_0 hz0
    have fa : ((zRk (s 110) (s 109 1) p 44 && (zRk (s 110) (s 109 1) (zn1 s p) 44 && zRk (s 110) (s 109 1) (zn1 s (zn1 s p)) 59))) = false := by rw [f0] <;> rfl
    refine ⟨by rw [fa]; rfl, rfl, rk0.u4, fun z => by rw [fa] at z; cases z⟩
  · have hv0 : zNv (zNum (s 110) (s 109 1) p) = nI (zv1 s p) := if_neg hz0
    rw [hv0]
    have hl0 := zNum_le (s 110) (s 109 1) p
    refine P_iast (pc := 26) (0) dX2_readNumbers_26 sh_4 rfl (by omega) (by decide) ?_
    refine P_iload_n (pc := 27) dX2_readNumbers_27 rfl ?_
    refine P_iconst (pc := 28) (x := nI 1) dX2_readNumbers_28 (by decide) ?_
    refine P_iaddN (pc := 29) dX2_readNumbers_29 ?_
    refine P_iload_n (pc := 30) dX2_readNumbers_30 rfl ?_
    refine P_icmp_geF (pc := 31) (tgt := 39) dX2_readNumbers_31 (by decide) (by decide) ?_
    refine P_bipush (pc := 34) (x := nI 44) dX2_readNumbers_34 (by decide) ?_
    refine P_goto (pc := 36) (tgt := 41) dX2_readNumbers_36 (by decide) ?_
    refine P_istore (pc := 41) dX2_readNumbers_41 (by decide) rfl ?_
    refine P_aload_n (pc := 43) dX2_readNumbers_43 rfl ?_
    refine P_getr (pc := 44) 2 0 dX2_readNumbers_44 fl_X2_9 sh_3 fr_2_0 F_3_0 ?_
    refine P_iload_n (pc := 47) dX2_readNumbers_47 rfl ?_
    refine P_iald (pc := 48) (0) (x := nI (zv1 s p)) dX2_readNumbers_48 sh_4 rfl (by omega) (by decide) (zu_s _ _ _ _) ?_
    refine P_bipush (pc := 49) (x := (-4)) dX2_readNumbers_49 (by decide) ?_
    refine P_icmp_eqF (pc := 51) (tgt := 67) dX2_readNumbers_51 (by decide) (zne4 (by omega)) ?_
    refine P_aload_n (pc := 54) dX2_readNumbers_54 rfl ?_
    refine P_aload_n (pc := 55) dX2_readNumbers_55 rfl ?_
    refine P_geti (pc := 56) 2 1 (x := nI (zNe (s 110) (s 109 1) p)) dX2_readNumbers_56 fl_X2_20 sh_3 fi_2_1 (c0) ?_
    obtain ⟨_, _, _, kl0, rfl, rfl, rfl⟩ := c_letterAt (l := l) (D := D) (tw := tw) (I := zu K0 4 0 (nI (zv1 s p))) (hX.rr rk0.u4) (p := zNe (s 110) (s 109 1) p) (by show p + (zNum (s 110) (s 109 1) p).1 < _; omega)
    refine P_callV (pc := 59) (S := []) (As := [_]) kl0 dX2_readNumbers_59 ok_X7_letterAt ml_X2_33 iv_X7_letterAt ⟨by decide, by decide⟩ (zret_i _) rfl ⟨rfl, by decide⟩ sh_1 ⟨by decide, rfl⟩ (Nat.le_of_ble_eq_true rfl) ?_
    refine P_iload (pc := 62) dX2_readNumbers_62 rfl ?_
    refine P_icmp_eq (pc := 64) (tgt := 69) dX2_readNumbers_64 (by decide) (fun h64 => ?_) (fun h64 => ?_)
    · have t0 : zRk (s 110) (s 109 1) p 44 = true := zRk_t hz0 ((zo_chr4 (by decide) (fun c e => by have := zCh_lt (fun k hk => (hX.2.2 k hk).2) e; omega)).mp h64)
      refine P_aload_n (pc := 69) dX2_readNumbers_69 rfl ?_
      refine P_dup (pc := 70) dX2_readNumbers_70 rfl ?_
      refine P_geti (pc := 71) 2 1 (x := nI (zNe (s 110) (s 109 1) p)) dX2_readNumbers_71 fl_X2_20 sh_3 fi_2_1 (c0) ?_
      refine P_iconst (pc := 74) (x := nI 1) dX2_readNumbers_74 (by decide) ?_
      refine P_iaddN (pc := 75) dX2_readNumbers_75 ?_
      refine P_puti (pc := 76) 2 1 dX2_readNumbers_76 fl_X2_20 sh_3 fp_2_1 rfl rfl ?_
      refine P_iincN (pc := 79) (c := 1) dX2_readNumbers_79 rfl (by decide) (by decide) rfl ?_
      refine P_goto (pc := 82) (tgt := 2) dX2_readNumbers_82 (by decide) ?_
      obtain ⟨M1, hM1⟩ : ∃ M, M = zu (zu K0 4 0 (nI (zv1 s p))) 3 1 (nI (zn1 s p)) := ⟨_, rfl⟩
      have r1 : zRr I M1 := by rw [hM1]; exact (rk0.u4).u3
      have q1 : M1 3 1 = nI (zn1 s p) := by rw [hM1]; rfl
      have g0_1 : M1 4 0 = nI (zv1 s p) := by rw [hM1]; rfl
      show ZP l D zm_X2_readNumbers 2 [some (.ref 3), some (.ref 1), some (.int (nI 3)), some (.int (nI 1)), some (.int (nI 44))] [] (zu (zu K0 4 0 (nI (zv1 s p))) 3 1 (nI (zn1 s p))) (zF tw) _
      rw [← hM1]
      refine P_iload_n (pc := 2) dX2_readNumbers_2 rfl ?_
      refine P_iload_n (pc := 3) dX2_readNumbers_3 rfl ?_
      refine P_icmp_geF (pc := 4) (tgt := 85) dX2_readNumbers_4 (by decide) (by decide) ?_
      refine P_iload_n (pc := 7) dX2_readNumbers_7 rfl ?_
      refine P_aload_n (pc := 8) dX2_readNumbers_8 rfl ?_
      refine P_getr (pc := 9) 2 0 dX2_readNumbers_9 fl_X2_9 sh_3 fr_2_0 F_3_0 ?_
      refine P_alen (pc := 12) (x := nI 3) dX2_readNumbers_12 sh_4 (by decide) (by decide) rfl ?_
      refine P_icmp_geF (pc := 13) (tgt := 85) dX2_readNumbers_13 (by decide) (by decide) ?_
      refine P_aload_n (pc := 16) dX2_readNumbers_16 rfl ?_
      refine P_getr (pc := 17) 2 0 dX2_readNumbers_17 fl_X2_9 sh_3 fr_2_0 F_3_0 ?_
      refine P_iload_n (pc := 20) dX2_readNumbers_20 rfl ?_
      refine P_aload_n (pc := 21) dX2_readNumbers_21 rfl ?_
      refine P_aload_n (pc := 22) dX2_readNumbers_22 rfl ?_
      obtain ⟨_, K1, _, kn1, rfl, rfl, a1, b1, c1⟩ := c_readNumber (l := l) (D := D) (tw := tw) (I := M1) (hX.rr r1) (p := (zn1 s p)) q1 (by omega)
      refine P_callV (pc := 23) (S := [_, _]) (As := [_]) kn1 dX2_readNumbers_23 ok_X2_readNumber ml_X2_45 iv_X2_readNumber ⟨by decide, by decide⟩ (zret_i _) rfl ⟨rfl, by decide⟩ sh_3 ⟨by decide, rfl⟩ (Nat.le_of_ble_eq_true rfl) ?_
      have rk1 : zRr I K1 := (r1.trans (⟨fun a h3 h4 => a1 a h3, b1⟩ : zRr M1 K1))
      by_cases hz1 : (zNum (s 110) (s 109 1) (zn1 s p)).1 = 0
      · have hv1 : zNv (zNum (s 110) (s 109 1) (zn1 s p)) = -4 := if_pos hz1
        rw [hv1]
        refine P_iast (pc := 26) (1) dX2_readNumbers_26 sh_4 rfl (by omega) (by decide) ?_
        refine P_iload_n (pc := 27) dX2_readNumbers_27 rfl ?_
        refine P_iconst (pc := 28) (x := nI 1) dX2_readNumbers_28 (by decide) ?_
        refine P_iaddN (pc := 29) dX2_readNumbers_29 ?_
        refine P_iload_n (pc := 30) dX2_readNumbers_30 rfl ?_
        refine P_icmp_geF (pc := 31) (tgt := 39) dX2_readNumbers_31 (by decide) (by decide) ?_
        refine P_bipush (pc := 34) (x := nI 44) dX2_readNumbers_34 (by decide) ?_
        refine P_goto (pc := 36) (tgt := 41) dX2_readNumbers_36 (by decide) ?_
        refine P_istore (pc := 41) dX2_readNumbers_41 (by decide) rfl ?_
        refine P_aload_n (pc := 43) dX2_readNumbers_43 rfl ?_
        refine P_getr (pc := 44) 2 0 dX2_readNumbers_44 fl_X2_9 sh_3 fr_2_0 F_3_0 ?_
        refine P_iload_n (pc := 47) dX2_readNumbers_47 rfl ?_
        refine P_iald (pc := 48) (1) (x := (-4)) dX2_readNumbers_48 sh_4 rfl (by omega) (by decide) (zu_s _ _ _ _) ?_
        refine P_bipush (pc := 49) (x := (-4)) dX2_readNumbers_49 (by decide) ?_
        refine P_icmp_eqT (pc := 51) (tgt := 67) dX2_readNumbers_51 (by decide) rfl ?_
        refine P_iconst (pc := 67) (x := nI 0) dX2_readNumbers_67 (by decide) ?_
        refine P_iret (pc := 68) dX2_readNumbers_68 ?_
        have f1 : zRk (s 110) (s 109 1) (zn1 s p) 44 = false := zRk_0 hz1
        have fa : ((zRk (s 110) (s 109 1) p 44 && (zRk (s 110) (s 109 1) (zn1 s p) 44 && zRk (s 110) (s 109 1) (zn1 s (zn1 s p)) 59))) = false := by rw [t0, f1] <;> rfl
        refine ⟨by rw [fa]; rfl, rfl, rk1.u4, fun z => by rw [fa] at z; cases z⟩
      · have hv1 : zNv (zNum (s 110) (s 109 1) (zn1 s p)) = nI (zv1 s (zn1 s p)) := if_neg hz1
        rw [hv1]
        have hl1 := zNum_le (s 110) (s 109 1) (zn1 s p)
        refine P_iast (pc := 26) (1) dX2_readNumbers_26 sh_4 rfl (by omega) (by decide) ?_
        refine P_iload_n (pc := 27) dX2_readNumbers_27 rfl ?_
        refine P_iconst (pc := 28) (x := nI 1) dX2_readNumbers_28 (by decide) ?_
        refine P_iaddN (pc := 29) dX2_readNumbers_29 ?_
        refine P_iload_n (pc := 30) dX2_readNumbers_30 rfl ?_
        refine P_icmp_geF (pc := 31) (tgt := 39) dX2_readNumbers_31 (by decide) (by decide) ?_
        refine P_bipush (pc := 34) (x := nI 44) dX2_readNumbers_34 (by decide) ?_
        refine P_goto (pc := 36) (tgt := 41) dX2_readNumbers_36 (by decide) ?_
        refine P_istore (pc := 41) dX2_readNumbers_41 (by decide) rfl ?_
        refine P_aload_n (pc := 43) dX2_readNumbers_43 rfl ?_
        refine P_getr (pc := 44) 2 0 dX2_readNumbers_44 fl_X2_9 sh_3 fr_2_0 F_3_0 ?_
        refine P_iload_n (pc := 47) dX2_readNumbers_47 rfl ?_
        refine P_iald (pc := 48) (1) (x := nI (zv1 s (zn1 s p))) dX2_readNumbers_48 sh_4 rfl (by omega) (by decide) (zu_s _ _ _ _) ?_
        refine P_bipush (pc := 49) (x := (-4)) dX2_readNumbers_49 (by decide) ?_
        refine P_icmp_eqF (pc := 51) (tgt := 67) dX2_readNumbers_51 (by decide) (zne4 (by omega)) ?_
        refine P_aload_n (pc := 54) dX2_readNumbers_54 rfl ?_
        refine P_aload_n (pc := 55) dX2_readNumbers_55 rfl ?_
        refine P_geti (pc := 56) 2 1 (x := nI (zNe (s 110) (s 109 1) (zn1 s p))) dX2_readNumbers_56 fl_X2_20 sh_3 fi_2_1 (c1) ?_
        obtain ⟨_, _, _, kl1, rfl, rfl, rfl⟩ := c_letterAt (l := l) (D := D) (tw := tw) (I := zu K1 4 1 (nI (zv1 s (zn1 s p)))) (hX.rr rk1.u4) (p := zNe (s 110) (s 109 1) (zn1 s p)) (by show (zn1 s p) + (zNum (s 110) (s 109 1) (zn1 s p)).1 < _; omega)
        refine P_callV (pc := 59) (S := []) (As := [_]) kl1 dX2_readNumbers_59 ok_X7_letterAt ml_X2_33 iv_X7_letterAt ⟨by decide, by decide⟩ (zret_i _) rfl ⟨rfl, by decide⟩ sh_1 ⟨by decide, rfl⟩ (Nat.le_of_ble_eq_true rfl) ?_
        refine P_iload (pc := 62) dX2_readNumbers_62 rfl ?_
        refine P_icmp_eq (pc := 64) (tgt := 69) dX2_readNumbers_64 (by decide) (fun h64 => ?_) (fun h64 => ?_)
        · have t1 : zRk (s 110) (s 109 1) (zn1 s p) 44 = true := zRk_t hz1 ((zo_chr4 (by decide) (fun c e => by have := zCh_lt (fun k hk => (hX.2.2 k hk).2) e; omega)).mp h64)
          refine P_aload_n (pc := 69) dX2_readNumbers_69 rfl ?_
          refine P_dup (pc := 70) dX2_readNumbers_70 rfl ?_
          refine P_geti (pc := 71) 2 1 (x := nI (zNe (s 110) (s 109 1) (zn1 s p))) dX2_readNumbers_71 fl_X2_20 sh_3 fi_2_1 (c1) ?_
          refine P_iconst (pc := 74) (x := nI 1) dX2_readNumbers_74 (by decide) ?_
          refine P_iaddN (pc := 75) dX2_readNumbers_75 ?_
          refine P_puti (pc := 76) 2 1 dX2_readNumbers_76 fl_X2_20 sh_3 fp_2_1 rfl rfl ?_
          refine P_iincN (pc := 79) (c := 1) dX2_readNumbers_79 rfl (by decide) (by decide) rfl ?_
          refine P_goto (pc := 82) (tgt := 2) dX2_readNumbers_82 (by decide) ?_
          obtain ⟨M2, hM2⟩ : ∃ M, M = zu (zu K1 4 1 (nI (zv1 s (zn1 s p)))) 3 1 (nI (zn1 s (zn1 s p))) := ⟨_, rfl⟩
          have r2 : zRr I M2 := by rw [hM2]; exact (rk1.u4).u3
          have q2 : M2 3 1 = nI (zn1 s (zn1 s p)) := by rw [hM2]; rfl
          have g0_2 : M2 4 0 = nI (zv1 s p) := by rw [hM2]; show K1 4 0 = _; rw [a1 4 (by decide)]; exact g0_1
          have g1_2 : M2 4 1 = nI (zv1 s (zn1 s p)) := by rw [hM2]; rfl
          show ZP l D zm_X2_readNumbers 2 [some (.ref 3), some (.ref 1), some (.int (nI 3)), some (.int (nI 2)), some (.int (nI 44))] [] (zu (zu K1 4 1 (nI (zv1 s (zn1 s p)))) 3 1 (nI (zn1 s (zn1 s p)))) (zF tw) _
          rw [← hM2]
          refine P_iload_n (pc := 2) dX2_readNumbers_2 rfl ?_
          refine P_iload_n (pc := 3) dX2_readNumbers_3 rfl ?_
          refine P_icmp_geF (pc := 4) (tgt := 85) dX2_readNumbers_4 (by decide) (by decide) ?_
          refine P_iload_n (pc := 7) dX2_readNumbers_7 rfl ?_
          refine P_aload_n (pc := 8) dX2_readNumbers_8 rfl ?_
          refine P_getr (pc := 9) 2 0 dX2_readNumbers_9 fl_X2_9 sh_3 fr_2_0 F_3_0 ?_
          refine P_alen (pc := 12) (x := nI 3) dX2_readNumbers_12 sh_4 (by decide) (by decide) rfl ?_
          refine P_icmp_geF (pc := 13) (tgt := 85) dX2_readNumbers_13 (by decide) (by decide) ?_
          refine P_aload_n (pc := 16) dX2_readNumbers_16 rfl ?_
          refine P_getr (pc := 17) 2 0 dX2_readNumbers_17 fl_X2_9 sh_3 fr_2_0 F_3_0 ?_
          refine P_iload_n (pc := 20) dX2_readNumbers_20 rfl ?_
          refine P_aload_n (pc := 21) dX2_readNumbers_21 rfl ?_
          refine P_aload_n (pc := 22) dX2_readNumbers_22 rfl ?_
          obtain ⟨_, K2, _, kn2, rfl, rfl, a2, b2, c2⟩ := c_readNumber (l := l) (D := D) (tw := tw) (I := M2) (hX.rr r2) (p := (zn1 s (zn1 s p))) q2 (by omega)
          refine P_callV (pc := 23) (S := [_, _]) (As := [_]) kn2 dX2_readNumbers_23 ok_X2_readNumber ml_X2_45 iv_X2_readNumber ⟨by decide, by decide⟩ (zret_i _) rfl ⟨rfl, by decide⟩ sh_3 ⟨by decide, rfl⟩ (Nat.le_of_ble_eq_true rfl) ?_
          have rk2 : zRr I K2 := (r2.trans (⟨fun a h3 h4 => a2 a h3, b2⟩ : zRr M2 K2))
          by_cases hz2 : (zNum (s 110) (s 109 1) (zn1 s (zn1 s p))).1 = 0
          · have hv2 : zNv (zNum (s 110) (s 109 1) (zn1 s (zn1 s p))) = -4 := if_pos hz2
            rw [hv2]
            refine P_iast (pc := 26) (2) dX2_readNumbers_26 sh_4 rfl (by omega) (by decide) ?_
            refine P_iload_n (pc := 27) dX2_readNumbers_27 rfl ?_
            refine P_iconst (pc := 28) (x := nI 1) dX2_readNumbers_28 (by decide) ?_
            refine P_iaddN (pc := 29) dX2_readNumbers_29 ?_
            refine P_iload_n (pc := 30) dX2_readNumbers_30 rfl ?_
            refine P_icmp_geT (pc := 31) (tgt := 39) dX2_readNumbers_31 (by decide) (by decide) ?_
            refine P_bipush (pc := 39) (x := nI 59) dX2_readNumbers_39 (by decide) ?_
            refine P_istore (pc := 41) dX2_readNumbers_41 (by decide) rfl ?_
            refine P_aload_n (pc := 43) dX2_readNumbers_43 rfl ?_
            refine P_getr (pc := 44) 2 0 dX2_readNumbers_44 fl_X2_9 sh_3 fr_2_0 F_3_0 ?_
            refine P_iload_n (pc := 47) dX2_readNumbers_47 rfl ?_
            refine P_iald (pc := 48) (2) (x := (-4)) dX2_readNumbers_48 sh_4 rfl (by omega) (by decide) (zu_s _ _ _ _) ?_
            refine P_bipush (pc := 49) (x := (-4)) dX2_readNumbers_49 (by decide) ?_
            refine P_icmp_eqT (pc := 51) (tgt := 67) dX2_readNumbers_51 (by decide) rfl ?_
            refine P_iconst (pc := 67) (x := nI 0) dX2_readNumbers_67 (by decide) ?_
            refine P_iret (pc := 68) dX2_readNumbers_68 ?_
            have f2 : zRk (s 110) (s 109 1) (zn1 s (zn1 s p)) 59 = false := zRk_0 hz2
            have fa : ((zRk (s 110) (s 109 1) p 44 && (zRk (s 110) (s 109 1) (zn1 s p) 44 && zRk (s 110) (s 109 1) (zn1 s (zn1 s p)) 59))) = false := by rw [t0, t1, f2] <;> rfl
            refine ⟨by rw [fa]; rfl, rfl, rk2.u4, fun z => by rw [fa] at z; cases z⟩
          · have hv2 : zNv (zNum (s 110) (s 109 1) (zn1 s (zn1 s p))) = nI (zv1 s (zn1 s (zn1 s p))) := if_neg hz2
            rw [hv2]
            have hl2 := zNum_le (s 110) (s 109 1) (zn1 s (zn1 s p))
            refine P_iast (pc := 26) (2) dX2_readNumbers_26 sh_4 rfl (by omega) (by decide) ?_
            refine P_iload_n (pc := 27) dX2_readNumbers_27 rfl ?_
            refine P_iconst (pc := 28) (x := nI 1) dX2_readNumbers_28 (by decide) ?_
            refine P_iaddN (pc := 29) dX2_readNumbers_29 ?_
            refine P_iload_n (pc := 30) dX2_readNumbers_30 rfl ?_
            refine P_icmp_geT (pc := 31) (tgt := 39) dX2_readNumbers_31 (by decide) (by decide) ?_
            refine P_bipush (pc := 39) (x := nI 59) dX2_readNumbers_39 (by decide) ?_
            refine P_istore (pc := 41) dX2_readNumbers_41 (by decide) rfl ?_
            refine P_aload_n (pc := 43) dX2_readNumbers_43 rfl ?_
            refine P_getr (pc := 44) 2 0 dX2_readNumbers_44 fl_X2_9 sh_3 fr_2_0 F_3_0 ?_
            refine P_iload_n (pc := 47) dX2_readNumbers_47 rfl ?_
            refine P_iald (pc := 48) (2) (x := nI (zv1 s (zn1 s (zn1 s p)))) dX2_readNumbers_48 sh_4 rfl (by omega) (by decide) (zu_s _ _ _ _) ?_
            refine P_bipush (pc := 49) (x := (-4)) dX2_readNumbers_49 (by decide) ?_
            refine P_icmp_eqF (pc := 51) (tgt := 67) dX2_readNumbers_51 (by decide) (zne4 (by omega)) ?_
            refine P_aload_n (pc := 54) dX2_readNumbers_54 rfl ?_
            refine P_aload_n (pc := 55) dX2_readNumbers_55 rfl ?_
            refine P_geti (pc := 56) 2 1 (x := nI (zNe (s 110) (s 109 1) (zn1 s (zn1 s p)))) dX2_readNumbers_56 fl_X2_20 sh_3 fi_2_1 (c2) ?_
            obtain ⟨_, _, _, kl2, rfl, rfl, rfl⟩ := c_letterAt (l := l) (D := D) (tw := tw) (I := zu K2 4 2 (nI (zv1 s (zn1 s (zn1 s p))))) (hX.rr rk2.u4) (p := zNe (s 110) (s 109 1) (zn1 s (zn1 s p))) (by show (zn1 s (zn1 s p)) + (zNum (s 110) (s 109 1) (zn1 s (zn1 s p))).1 < _; omega)
            refine P_callV (pc := 59) (S := []) (As := [_]) kl2 dX2_readNumbers_59 ok_X7_letterAt ml_X2_33 iv_X7_letterAt ⟨by decide, by decide⟩ (zret_i _) rfl ⟨rfl, by decide⟩ sh_1 ⟨by decide, rfl⟩ (Nat.le_of_ble_eq_true rfl) ?_
            refine P_iload (pc := 62) dX2_readNumbers_62 rfl ?_
            refine P_icmp_eq (pc := 64) (tgt := 69) dX2_readNumbers_64 (by decide) (fun h64 => ?_) (fun h64 => ?_)
            · have t2 : zRk (s 110) (s 109 1) (zn1 s (zn1 s p)) 59 = true := zRk_t hz2 ((zo_chr4 (by decide) (fun c e => by have := zCh_lt (fun k hk => (hX.2.2 k hk).2) e; omega)).mp h64)
              refine P_aload_n (pc := 69) dX2_readNumbers_69 rfl ?_
              refine P_dup (pc := 70) dX2_readNumbers_70 rfl ?_
              refine P_geti (pc := 71) 2 1 (x := nI (zNe (s 110) (s 109 1) (zn1 s (zn1 s p)))) dX2_readNumbers_71 fl_X2_20 sh_3 fi_2_1 (c2) ?_
              refine P_iconst (pc := 74) (x := nI 1) dX2_readNumbers_74 (by decide) ?_
              refine P_iaddN (pc := 75) dX2_readNumbers_75 ?_
              refine P_puti (pc := 76) 2 1 dX2_readNumbers_76 fl_X2_20 sh_3 fp_2_1 rfl rfl ?_
              refine P_iincN (pc := 79) (c := 1) dX2_readNumbers_79 rfl (by decide) (by decide) rfl ?_
              refine P_goto (pc := 82) (tgt := 2) dX2_readNumbers_82 (by decide) ?_
              obtain ⟨M3, hM3⟩ : ∃ M, M = zu (zu K2 4 2 (nI (zv1 s (zn1 s (zn1 s p))))) 3 1 (nI (zn1 s (zn1 s (zn1 s p)))) := ⟨_, rfl⟩
              have r3 : zRr I M3 := by rw [hM3]; exact (rk2.u4).u3
              have q3 : M3 3 1 = nI (zn1 s (zn1 s (zn1 s p))) := by rw [hM3]; rfl
              have g0_3 : M3 4 0 = nI (zv1 s p) := by rw [hM3]; show K2 4 0 = _; rw [a2 4 (by decide)]; exact g0_2
              have g1_3 : M3 4 1 = nI (zv1 s (zn1 s p)) := by rw [hM3]; show K2 4 1 = _; rw [a2 4 (by decide)]; exact g1_2
              have g2_3 : M3 4 2 = nI (zv1 s (zn1 s (zn1 s p))) := by rw [hM3]; rfl
              show ZP l D zm_X2_readNumbers 2 [some (.ref 3), some (.ref 1), some (.int (nI 3)), some (.int (nI 3)), some (.int (nI 59))] [] (zu (zu K2 4 2 (nI (zv1 s (zn1 s (zn1 s p))))) 3 1 (nI (zn1 s (zn1 s (zn1 s p))))) (zF tw) _
              rw [← hM3]
              refine P_iload_n (pc := 2) dX2_readNumbers_2 rfl ?_
              refine P_iload_n (pc := 3) dX2_readNumbers_3 rfl ?_
              refine P_icmp_geT (pc := 4) (tgt := 85) dX2_readNumbers_4 (by decide) (by decide) ?_
              refine P_iconst (pc := 85) (x := nI 1) dX2_readNumbers_85 (by decide) ?_
              refine P_iret (pc := 86) dX2_readNumbers_86 ?_
              refine ⟨by rw [t0, t1, t2]; rfl, rfl, r3, fun _ => ⟨g0_3, g1_3, g2_3, q3⟩⟩
            · refine P_iconst (pc := 67) (x := nI 0) dX2_readNumbers_67 (by decide) ?_
              refine P_iret (pc := 68) dX2_readNumbers_68 ?_
              have f2 : zRk (s 110) (s 109 1) (zn1 s (zn1 s p)) 59 = false := zRk_f (fun z => h64 ((zo_chr4 (by decide) (fun c e => by have := zCh_lt (fun k hk => (hX.2.2 k hk).2) e; omega)).mpr z))
              have fa : ((zRk (s 110) (s 109 1) p 44 && (zRk (s 110) (s 109 1) (zn1 s p) 44 && zRk (s 110) (s 109 1) (zn1 s (zn1 s p)) 59))) = false := by rw [t0, t1, f2] <;> rfl
              refine ⟨by rw [fa]; rfl, rfl, rk2.u4, fun z => by rw [fa] at z; cases z⟩
        · refine P_iconst (pc := 67) (x := nI 0) dX2_readNumbers_67 (by decide) ?_
          refine P_iret (pc := 68) dX2_readNumbers_68 ?_
          have f1 : zRk (s 110) (s 109 1) (zn1 s p) 44 = false := zRk_f (fun z => h64 ((zo_chr4 (by decide) (fun c e => by have := zCh_lt (fun k hk => (hX.2.2 k hk).2) e; omega)).mpr z))
          have fa : ((zRk (s 110) (s 109 1) p 44 && (zRk (s 110) (s 109 1) (zn1 s p) 44 && zRk (s 110) (s 109 1) (zn1 s (zn1 s p)) 59))) = false := by rw [t0, f1] <;> rfl
          refine ⟨by rw [fa]; rfl, rfl, rk1.u4, fun z => by rw [fa] at z; cases z⟩
    · refine P_iconst (pc := 67) (x := nI 0) dX2_readNumbers_67 (by decide) ?_
      refine P_iret (pc := 68) dX2_readNumbers_68 ?_
      have f0 : zRk (s 110) (s 109 1) p 44 = false := zRk_f (fun z => h64 ((zo_chr4 (by decide) (fun c e => by have := zCh_lt (fun k hk => (hX.2.2 k hk).2) e; omega)).mpr z))
      have fa : ((zRk (s 110) (s 109 1) p 44 && (zRk (s 110) (s 109 1) (zn1 s p) 44 && zRk (s 110) (s 109 1) (zn1 s (zn1 s p)) 59))) = false := by rw [f0] <;> rfl
      refine ⟨by rw [fa]; rfl, rfl, rk0.u4, fun z => by rw [fa] at z; cases z⟩
