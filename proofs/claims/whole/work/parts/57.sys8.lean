set_option maxRecDepth 20000 in
theorem c_stclear_5 {l : Launch} {D : va_G} {tw : Nat} {I : AI}  : ZP l D zm_X6_clear 0 (zent 2 [.ref 6]) [] I (zF tw) (fun v J G => v = none ∧ G = zF tw ∧ zDf 5 I J ∧ (∀ a, (a < 6 ∨ 10 + 8 ≤ a) → J a = I a) ∧ (J 6 0 = nI 4 ∧ J 6 1 = nI 0) ∧ ∀ a b, a < 8 → b < 8 → J (10 + a) b = nI 0) := by
  have loop : ∀ (d : Nat) (c : Nat) (J : AI), 8 - c < d → c ≤ 8 → (∀ a, (a < 6 ∨ 10 + 8 ≤ a) → J a = I a) → J 6 0 = nI 4 ∧ J 6 1 = nI 0 → (∀ a b, a < c → b < 8 → J (10 + a) b = nI 0) → ZP l D zm_X6_clear 12 [some (.ref 6), some (.int (nI c))] [] J (zF tw) (fun v J G => v = none ∧ G = zF tw ∧ zDf 5 I J ∧ (∀ a, (a < 6 ∨ 10 + 8 ≤ a) → J a = I a) ∧ (J 6 0 = nI 4 ∧ J 6 1 = nI 0) ∧ ∀ a b, a < 8 → b < 8 → J (10 + a) b = nI 0) := by
    intro d
    induction d with
    | zero =>
      intro c J hd
      exact absurd hd (by omega)
    | succ d ih =>
      intro c J hd hc hF h1 hR
      refine P_iload_n (pc := 12) dX6_clear_12 rfl ?_
      refine P_bipush (pc := 13) (x := nI 8) dX6_clear_13 (by decide) ?_
      refine P_icmp_geN (pc := 15) (tgt := 34) dX6_clear_15 (by decide) (by omega) (by omega) (fun h15 => ?_) (fun h15 => ?_)
      · exact P_ret (pc := 34) dX6_clear_34 (⟨rfl, rfl, fun a ha => hF a (by omega), fun a ha => hF a ha, h1, fun a b ha hb => hR a b (by omega) hb⟩)
      · refine P_aload_n (pc := 18) dX6_clear_18 rfl ?_
        refine P_getr (pc := 19) 6 4 dX6_clear_19 fl_X6_20 sh_6 fr_6_4 F_6_4 ?_
        refine P_iload_n (pc := 22) dX6_clear_22 rfl ?_
        refine P_aald (pc := 23) (c) dX6_clear_23 sh_9 (by decide) rfl (by omega) (by decide) (Fr_9 _ (by omega)) ?_
        refine P_iconst (pc := 24) (x := nI 0) dX6_clear_24 (by decide) ?_
        obtain ⟨_, K, _, k1, rfl, rfl, hK1, hK2⟩ := c_fill (l := l) (D := D) (tw := tw) (I := J) (a := 10 + c) (n := 8) (x := nI 0) (shr_10 c (by omega)) (by decide)
        refine P_callS (pc := 25) (S := []) (As := [_, _]) k1 dX6_clear_25 ok_J7_fill_53178 ml_X6_33 is_J7_fill_53178 ⟨by decide, by decide⟩ zret_v rfl ⟨rfl, by decide⟩ (Nat.le_of_ble_eq_true rfl) ?_
        refine P_iincN (pc := 28) (c := 1) dX6_clear_28 rfl (by decide) (by decide) rfl ?_
        refine P_goto (pc := 31) (tgt := 12) dX6_clear_31 (by decide) ?_
        refine ih (c + 1) K (by omega) (by omega) (fun a ha => (hK1 a (by omega)).trans (hF a ha)) (by rw [hK1 _ (by omega)]; exact h1) (fun a b ha hb => ?_)
        by_cases e : a = c
        · subst e; exact hK2 b hb
        · rw [hK1 _ (by omega)]; exact hR a b (by omega) hb
  show ZP _ _ _ _ [some _, none] _ _ _ _
  refine P_aload_n (pc := 0) dX6_clear_0 rfl ?_
  refine P_iconst (pc := 1) (x := nI 4) dX6_clear_1 (by decide) ?_
  refine P_puti (pc := 2) 6 0 dX6_clear_2 fl_X6_26 sh_6 fp_6_0 rfl rfl ?_
  refine P_aload_n (pc := 5) dX6_clear_5 rfl ?_
  refine P_iconst (pc := 6) (x := nI 0) dX6_clear_6 (by decide) ?_
  refine P_puti (pc := 7) 6 1 dX6_clear_7 fl_X6_30 sh_6 fp_6_1 rfl rfl ?_
  refine P_iconst (pc := 10) (x := nI 0) dX6_clear_10 (by decide) ?_
  refine P_istore_n (pc := 11) dX6_clear_11 (by decide) rfl ?_
  exact loop 9 0 _ (by omega) (by omega) (fun a ha => by rw [zu_o _ _ (by omega), zu_o _ _ (by omega)]) ⟨rfl, rfl⟩ (fun a b ha hb => by omega)
set_option maxRecDepth 20000 in
theorem c_tclear_5 {l : Launch} {D : va_G} {tw : Nat} {I : AI} {s : Nat → Nat → Nat} : ZP l D zm_X8_clear 0 (zent 1 [.ref 5]) [] I (zF tw) (fun v J G => v = none ∧ G = zF tw ∧ zDf 5 I J ∧ DrC (sIni s) J 5) := by
  show ZP _ _ _ _ [some _] _ _ _ _
  refine P_aload_n (pc := 0) dX8_clear_0 rfl ?_
  refine P_getr (pc := 1) 8 0 dX8_clear_1 fl_X8_12 sh_5 fr_8_0 F_5_0 ?_
  obtain ⟨_, K, _, k1, rfl, rfl, hK1, hK2, hK3, hK4⟩ := c_stclear_5 (l := l) (D := D) (tw := tw) (I := I)
  refine P_callV (pc := 4) (S := []) (As := []) k1 dX8_clear_4 ok_X6_clear ml_X8_32 iv_X6_clear ⟨by decide, by decide⟩ zret_v rfl ⟨rfl, by decide⟩ sh_6 ⟨by decide, rfl⟩ (Nat.le_of_ble_eq_true rfl) ?_
  refine P_aload_n (pc := 7) dX8_clear_7 rfl ?_
  refine P_getr (pc := 8) 8 1 dX8_clear_8 fl_X8_21 sh_5 fr_8_1 F_5_1 ?_
  refine P_iconst (pc := 11) (x := nI 0) dX8_clear_11 (by decide) ?_
  refine P_puti (pc := 12) 5 3 dX8_clear_12 fl_X8_35 sh_27 fp_5_3 rfl rfl ?_
  refine P_aload_n (pc := 15) dX8_clear_15 rfl ?_
  refine P_getr (pc := 16) 8 2 dX8_clear_16 fl_X8_28 sh_5 fr_8_2 F_5_2 ?_
  refine P_iconst (pc := 19) (x := nI 0) dX8_clear_19 (by decide) ?_
  refine P_puti (pc := 20) 10 4 dX8_clear_20 fl_X8_39 sh_31 fp_10_4 rfl rfl ?_
  refine P_aload_n (pc := 23) dX8_clear_23 rfl ?_
  refine P_iconst (pc := 24) (x := nI 2) dX8_clear_24 (by decide) ?_
  refine P_puti (pc := 25) 8 3 dX8_clear_25 fl_X8_40 sh_5 fp_8_3 rfl rfl ?_
  refine P_aload_n (pc := 28) dX8_clear_28 rfl ?_
  refine P_iconst (pc := 29) (x := nI 3) dX8_clear_29 (by decide) ?_
  refine P_puti (pc := 30) 8 4 dX8_clear_30 fl_X8_43 sh_5 fp_8_4 rfl rfl ?_
  refine P_aload_n (pc := 33) dX8_clear_33 rfl ?_
  refine P_iconst (pc := 34) (x := nI 1) dX8_clear_34 (by decide) ?_
  refine P_puti (pc := 35) 8 5 dX8_clear_35 fl_X8_46 sh_5 fp_8_5 rfl rfl ?_
  exact P_ret (pc := 38) dX8_clear_38 (⟨rfl, rfl, ((((hK1.u (by decide)).u (by decide)).u (by decide)).u (by decide)).u (by decide), DrC.ini hK3 (fun a b ha hb => by rw [zu_o _ _ (by omega), zu_o _ _ (by omega), zu_o _ _ (by omega), zu_o _ _ (by omega), zu_o _ _ (by omega)]; exact hK4 a b ha hb) rfl rfl ⟨rfl, rfl, rfl⟩⟩)
set_option maxRecDepth 20000 in
theorem c_stadd_5 {l : Launch} {D : va_G} {tw : Nat} {I : AI} {m a b x : Nat} (hm : I 6 1 = nI m) (hm2 : m < 12) (ha : a < 8) (hb : b < 8) : ZP l D zm_X6_add 0 (zent 4 [.ref 6, .int (nI a), .int (nI b), .int (nI x)]) [] I (zF tw) (fun v J G => v = none ∧ G = zF tw ∧ J = zSd I 5 m a b x) := by
  show ZP _ _ _ _ [some _, some _, some _, some _] _ _ _ _
  refine P_aload_n (pc := 0) dX6_add_0 rfl ?_
  refine P_geti (pc := 1) 6 1 (x := nI (m)) dX6_add_1 fl_X6_30 sh_6 fi_6_1 (hm) ?_
  refine P_bipush (pc := 4) (x := nI 12) dX6_add_4 (by decide) ?_
  refine P_icmp_geF (pc := 6) (tgt := 57) dX6_add_6 (by decide) (by rw [nI_leI (by omega) (by omega)]; omega) ?_
  refine P_aload_n (pc := 9) dX6_add_9 rfl ?_
  refine P_getr (pc := 10) 6 2 dX6_add_10 fl_X6_9 sh_6 fr_6_2 F_6_2 ?_
  refine P_aload_n (pc := 13) dX6_add_13 rfl ?_
  refine P_geti (pc := 14) 6 1 (x := nI (m)) dX6_add_14 fl_X6_30 sh_6 fi_6_1 (hm) ?_
  refine P_iload_n (pc := 17) dX6_add_17 rfl ?_
  refine P_iast (pc := 18) ((m)) dX6_add_18 sh_7 rfl (by omega) (by decide) ?_
  refine P_aload_n (pc := 19) dX6_add_19 rfl ?_
  refine P_getr (pc := 20) 6 3 dX6_add_20 fl_X6_15 sh_6 fr_6_3 F_6_3 ?_
  refine P_aload_n (pc := 23) dX6_add_23 rfl ?_
  refine P_geti (pc := 24) 6 1 (x := nI (m)) dX6_add_24 fl_X6_30 sh_6 fi_6_1 (hm) ?_
  refine P_iload_n (pc := 27) dX6_add_27 rfl ?_
  refine P_iast (pc := 28) ((m)) dX6_add_28 sh_8 rfl (by omega) (by decide) ?_
  refine P_aload_n (pc := 29) dX6_add_29 rfl ?_
  refine P_getr (pc := 30) 6 4 dX6_add_30 fl_X6_20 sh_6 fr_6_4 F_6_4 ?_
  refine P_iload_n (pc := 33) dX6_add_33 rfl ?_
  refine P_aald (pc := 34) (a) dX6_add_34 sh_9 (by decide) rfl (by omega) (by decide) (Fr_9 _ (by omega)) ?_
  refine P_iload_n (pc := 35) dX6_add_35 rfl ?_
  refine P_iload_n (pc := 36) dX6_add_36 rfl ?_
  refine P_iast (pc := 37) (b) dX6_add_37 (shr_10 _ (by omega)) rfl (by omega) (by decide) ?_
  refine P_aload_n (pc := 38) dX6_add_38 rfl ?_
  refine P_getr (pc := 39) 6 4 dX6_add_39 fl_X6_20 sh_6 fr_6_4 F_6_4 ?_
  refine P_iload_n (pc := 42) dX6_add_42 rfl ?_
  refine P_aald (pc := 43) (b) dX6_add_43 sh_9 (by decide) rfl (by omega) (by decide) (Fr_9 _ (by omega)) ?_
  refine P_iload_n (pc := 44) dX6_add_44 rfl ?_
  refine P_iload_n (pc := 45) dX6_add_45 rfl ?_
  refine P_iast (pc := 46) (a) dX6_add_46 (shr_10 _ (by omega)) rfl (by omega) (by decide) ?_
  refine P_aload_n (pc := 47) dX6_add_47 rfl ?_
  refine P_dup (pc := 48) dX6_add_48 rfl ?_
  refine P_geti (pc := 49) 6 1 (x := nI (m)) dX6_add_49 fl_X6_30 sh_6 fi_6_1 (by rw [zu_o _ _ (by omega), zu_o _ _ (by omega), zu_o _ _ (by omega), zu_o _ _ (by omega)]; exact hm) ?_
  refine P_iconst (pc := 52) (x := nI 1) dX6_add_52 (by decide) ?_
  refine P_iaddN (pc := 53) dX6_add_53 ?_
  refine P_puti (pc := 54) 6 1 dX6_add_54 fl_X6_30 sh_6 fp_6_1 rfl rfl ?_
  exact P_ret (pc := 57) dX6_add_57 (⟨rfl, rfl, rfl⟩)
set_option maxRecDepth 20000 in
theorem c_wadd_5 {l : Launch} {D : va_G} {tw : Nat} {I : AI} {m k f a : Nat} (hm : I 31 4 = nI m) (hm2 : m < 4) : ZP l D zm_X10_add 0 (zent 4 [.ref 31, .int (nI k), .int (nI f), .int (nI a)]) [] I (zF tw) (fun v J G => v = none ∧ G = zF tw ∧ J = zWd I 31 m k f a) := by
  show ZP _ _ _ _ [some _, some _, some _, some _] _ _ _ _
  refine P_aload_n (pc := 0) dX10_add_0 rfl ?_
  refine P_geti (pc := 1) 10 4 (x := nI (m)) dX10_add_1 fl_X10_24 sh_31 fi_10_4 (hm) ?_
  refine P_iconst (pc := 4) (x := nI 4) dX10_add_4 (by decide) ?_
  refine P_icmp_geF (pc := 5) (tgt := 58) dX10_add_5 (by decide) (by rw [nI_leI (by omega) (by omega)]; omega) ?_
  refine P_aload_n (pc := 8) dX10_add_8 rfl ?_
  refine P_getr (pc := 9) 10 0 dX10_add_9 fl_X10_9 sh_31 fr_10_0 F_31_0 ?_
  refine P_aload_n (pc := 12) dX10_add_12 rfl ?_
  refine P_geti (pc := 13) 10 4 (x := nI (m)) dX10_add_13 fl_X10_24 sh_31 fi_10_4 (hm) ?_
  refine P_iload_n (pc := 16) dX10_add_16 rfl ?_
  refine P_iast (pc := 17) ((m)) dX10_add_17 sh_32 rfl (by omega) (by decide) ?_
  refine P_aload_n (pc := 18) dX10_add_18 rfl ?_
  refine P_getr (pc := 19) 10 1 dX10_add_19 fl_X10_15 sh_31 fr_10_1 F_31_1 ?_
  refine P_aload_n (pc := 22) dX10_add_22 rfl ?_
  refine P_geti (pc := 23) 10 4 (x := nI (m)) dX10_add_23 fl_X10_24 sh_31 fi_10_4 (hm) ?_
  refine P_iload_n (pc := 26) dX10_add_26 rfl ?_
  refine P_iast (pc := 27) ((m)) dX10_add_27 sh_33 rfl (by omega) (by decide) ?_
  refine P_aload_n (pc := 28) dX10_add_28 rfl ?_
  refine P_getr (pc := 29) 10 2 dX10_add_29 fl_X10_18 sh_31 fr_10_2 F_31_2 ?_
  refine P_aload_n (pc := 32) dX10_add_32 rfl ?_
  refine P_geti (pc := 33) 10 4 (x := nI (m)) dX10_add_33 fl_X10_24 sh_31 fi_10_4 (hm) ?_
  refine P_iload_n (pc := 36) dX10_add_36 rfl ?_
  refine P_iast (pc := 37) ((m)) dX10_add_37 sh_34 rfl (by omega) (by decide) ?_
  refine P_aload_n (pc := 38) dX10_add_38 rfl ?_
  refine P_getr (pc := 39) 10 3 dX10_add_39 fl_X10_21 sh_31 fr_10_3 F_31_3 ?_
  refine P_aload_n (pc := 42) dX10_add_42 rfl ?_
  refine P_geti (pc := 43) 10 4 (x := nI (m)) dX10_add_43 fl_X10_24 sh_31 fi_10_4 (hm) ?_
  refine P_iload_n (pc := 46) dX10_add_46 rfl ?_
  refine P_iast (pc := 47) ((m)) dX10_add_47 sh_35 rfl (by omega) (by decide) ?_
  refine P_aload_n (pc := 48) dX10_add_48 rfl ?_
  refine P_dup (pc := 49) dX10_add_49 rfl ?_
  refine P_geti (pc := 50) 10 4 (x := nI (m)) dX10_add_50 fl_X10_24 sh_31 fi_10_4 (hm) ?_
  refine P_iconst (pc := 53) (x := nI 1) dX10_add_53 (by decide) ?_
  refine P_iaddN (pc := 54) dX10_add_54 ?_
  refine P_puti (pc := 55) 10 4 dX10_add_55 fl_X10_24 sh_31 fp_10_4 rfl rfl ?_
  exact P_ret (pc := 58) dX10_add_58 (⟨rfl, rfl, rfl⟩)
set_option maxRecDepth 20000 in
theorem c_stclear_36 {l : Launch} {D : va_G} {tw : Nat} {I : AI}  : ZP l D zm_X6_clear 0 (zent 2 [.ref 37]) [] I (zF tw) (fun v J G => v = none ∧ G = zF tw ∧ zDf 36 I J ∧ (∀ a, (a < 37 ∨ 41 + 8 ≤ a) → J a = I a) ∧ (J 37 0 = nI 4 ∧ J 37 1 = nI 0) ∧ ∀ a b, a < 8 → b < 8 → J (41 + a) b = nI 0) := by
  have loop : ∀ (d : Nat) (c : Nat) (J : AI), 8 - c < d → c ≤ 8 → (∀ a, (a < 37 ∨ 41 + 8 ≤ a) → J a = I a) → J 37 0 = nI 4 ∧ J 37 1 = nI 0 → (∀ a b, a < c → b < 8 → J (41 + a) b = nI 0) → ZP l D zm_X6_clear 12 [some (.ref 37), some (.int (nI c))] [] J (zF tw) (fun v J G => v = none ∧ G = zF tw ∧ zDf 36 I J ∧ (∀ a, (a < 37 ∨ 41 + 8 ≤ a) → J a = I a) ∧ (J 37 0 = nI 4 ∧ J 37 1 = nI 0) ∧ ∀ a b, a < 8 → b < 8 → J (41 + a) b = nI 0) := by
    intro d
    induction d with
    | zero =>
      intro c J hd
      exact absurd hd (by omega)
    | succ d ih =>
      intro c J hd hc hF h1 hR
      refine P_iload_n (pc := 12) dX6_clear_12 rfl ?_
      refine P_bipush (pc := 13) (x := nI 8) dX6_clear_13 (by decide) ?_
      refine P_icmp_geN (pc := 15) (tgt := 34) dX6_clear_15 (by decide) (by omega) (by omega) (fun h15 => ?_) (fun h15 => ?_)
      · exact P_ret (pc := 34) dX6_clear_34 (⟨rfl, rfl, fun a ha => hF a (by omega), fun a ha => hF a ha, h1, fun a b ha hb => hR a b (by omega) hb⟩)
      · refine P_aload_n (pc := 18) dX6_clear_18 rfl ?_
        refine P_getr (pc := 19) 6 4 dX6_clear_19 fl_X6_20 sh_37 fr_6_4 F_37_4 ?_
        refine P_iload_n (pc := 22) dX6_clear_22 rfl ?_
        refine P_aald (pc := 23) (c) dX6_clear_23 sh_40 (by decide) rfl (by omega) (by decide) (Fr_40 _ (by omega)) ?_
        refine P_iconst (pc := 24) (x := nI 0) dX6_clear_24 (by decide) ?_
        obtain ⟨_, K, _, k1, rfl, rfl, hK1, hK2⟩ := c_fill (l := l) (D := D) (tw := tw) (I := J) (a := 41 + c) (n := 8) (x := nI 0) (shr_41 c (by omega)) (by decide)
        refine P_callS (pc := 25) (S := []) (As := [_, _]) k1 dX6_clear_25 ok_J7_fill_53178 ml_X6_33 is_J7_fill_53178 ⟨by decide, by decide⟩ zret_v rfl ⟨rfl, by decide⟩ (Nat.le_of_ble_eq_true rfl) ?_
        refine P_iincN (pc := 28) (c := 1) dX6_clear_28 rfl (by decide) (by decide) rfl ?_
        refine P_goto (pc := 31) (tgt := 12) dX6_clear_31 (by decide) ?_
        refine ih (c + 1) K (by omega) (by omega) (fun a ha => (hK1 a (by omega)).trans (hF a ha)) (by rw [hK1 _ (by omega)]; exact h1) (fun a b ha hb => ?_)
        by_cases e : a = c
        · subst e; exact hK2 b hb
        · rw [hK1 _ (by omega)]; exact hR a b (by omega) hb
  show ZP _ _ _ _ [some _, none] _ _ _ _
  refine P_aload_n (pc := 0) dX6_clear_0 rfl ?_
  refine P_iconst (pc := 1) (x := nI 4) dX6_clear_1 (by decide) ?_
  refine P_puti (pc := 2) 6 0 dX6_clear_2 fl_X6_26 sh_37 fp_6_0 rfl rfl ?_
  refine P_aload_n (pc := 5) dX6_clear_5 rfl ?_
  refine P_iconst (pc := 6) (x := nI 0) dX6_clear_6 (by decide) ?_
  refine P_puti (pc := 7) 6 1 dX6_clear_7 fl_X6_30 sh_37 fp_6_1 rfl rfl ?_
  refine P_iconst (pc := 10) (x := nI 0) dX6_clear_10 (by decide) ?_
  refine P_istore_n (pc := 11) dX6_clear_11 (by decide) rfl ?_
  exact loop 9 0 _ (by omega) (by omega) (fun a ha => by rw [zu_o _ _ (by omega), zu_o _ _ (by omega)]) ⟨rfl, rfl⟩ (fun a b ha hb => by omega)
set_option maxRecDepth 20000 in
theorem c_tclear_36 {l : Launch} {D : va_G} {tw : Nat} {I : AI} {s : Nat → Nat → Nat} : ZP l D zm_X8_clear 0 (zent 1 [.ref 36]) [] I (zF tw) (fun v J G => v = none ∧ G = zF tw ∧ zDf 36 I J ∧ DrC (sIni s) J 36) := by
  show ZP _ _ _ _ [some _] _ _ _ _
  refine P_aload_n (pc := 0) dX8_clear_0 rfl ?_
  refine P_getr (pc := 1) 8 0 dX8_clear_1 fl_X8_12 sh_36 fr_8_0 F_36_0 ?_
  obtain ⟨_, K, _, k1, rfl, rfl, hK1, hK2, hK3, hK4⟩ := c_stclear_36 (l := l) (D := D) (tw := tw) (I := I)
  refine P_callV (pc := 4) (S := []) (As := []) k1 dX8_clear_4 ok_X6_clear ml_X8_32 iv_X6_clear ⟨by decide, by decide⟩ zret_v rfl ⟨rfl, by decide⟩ sh_37 ⟨by decide, rfl⟩ (Nat.le_of_ble_eq_true rfl) ?_
  refine P_aload_n (pc := 7) dX8_clear_7 rfl ?_
  refine P_getr (pc := 8) 8 1 dX8_clear_8 fl_X8_21 sh_36 fr_8_1 F_36_1 ?_
  refine P_iconst (pc := 11) (x := nI 0) dX8_clear_11 (by decide) ?_
  refine P_puti (pc := 12) 5 3 dX8_clear_12 fl_X8_35 sh_58 fp_5_3 rfl rfl ?_
  refine P_aload_n (pc := 15) dX8_clear_15 rfl ?_
  refine P_getr (pc := 16) 8 2 dX8_clear_16 fl_X8_28 sh_36 fr_8_2 F_36_2 ?_
  refine P_iconst (pc := 19) (x := nI 0) dX8_clear_19 (by decide) ?_
  refine P_puti (pc := 20) 10 4 dX8_clear_20 fl_X8_39 sh_62 fp_10_4 rfl rfl ?_
  refine P_aload_n (pc := 23) dX8_clear_23 rfl ?_
  refine P_iconst (pc := 24) (x := nI 2) dX8_clear_24 (by decide) ?_
  refine P_puti (pc := 25) 8 3 dX8_clear_25 fl_X8_40 sh_36 fp_8_3 rfl rfl ?_
  refine P_aload_n (pc := 28) dX8_clear_28 rfl ?_
  refine P_iconst (pc := 29) (x := nI 3) dX8_clear_29 (by decide) ?_
  refine P_puti (pc := 30) 8 4 dX8_clear_30 fl_X8_43 sh_36 fp_8_4 rfl rfl ?_
  refine P_aload_n (pc := 33) dX8_clear_33 rfl ?_
  refine P_iconst (pc := 34) (x := nI 1) dX8_clear_34 (by decide) ?_
  refine P_puti (pc := 35) 8 5 dX8_clear_35 fl_X8_46 sh_36 fp_8_5 rfl rfl ?_
  exact P_ret (pc := 38) dX8_clear_38 (⟨rfl, rfl, ((((hK1.u (by decide)).u (by decide)).u (by decide)).u (by decide)).u (by decide), DrC.ini hK3 (fun a b ha hb => by rw [zu_o _ _ (by omega), zu_o _ _ (by omega), zu_o _ _ (by omega), zu_o _ _ (by omega), zu_o _ _ (by omega)]; exact hK4 a b ha hb) rfl rfl ⟨rfl, rfl, rfl⟩⟩)
set_option maxRecDepth 20000 in
theorem c_stadd_36 {l : Launch} {D : va_G} {tw : Nat} {I : AI} {m a b x : Nat} (hm : I 37 1 = nI m) (hm2 : m < 12) (ha : a < 8) (hb : b < 8) : ZP l D zm_X6_add 0 (zent 4 [.ref 37, .int (nI a), .int (nI b), .int (nI x)]) [] I (zF tw) (fun v J G => v = none ∧ G = zF tw ∧ J = zSd I 36 m a b x) := by
  show ZP _ _ _ _ [some _, some _, some _, some _] _ _ _ _
  refine P_aload_n (pc := 0) dX6_add_0 rfl ?_
  refine P_geti (pc := 1) 6 1 (x := nI (m)) dX6_add_1 fl_X6_30 sh_37 fi_6_1 (hm) ?_
  refine P_bipush (pc := 4) (x := nI 12) dX6_add_4 (by decide) ?_
  refine P_icmp_geF (pc := 6) (tgt := 57) dX6_add_6 (by decide) (by rw [nI_leI (by omega) (by omega)]; omega) ?_
  refine P_aload_n (pc := 9) dX6_add_9 rfl ?_
  refine P_getr (pc := 10) 6 2 dX6_add_10 fl_X6_9 sh_37 fr_6_2 F_37_2 ?_
  refine P_aload_n (pc := 13) dX6_add_13 rfl ?_
  refine P_geti (pc := 14) 6 1 (x := nI (m)) dX6_add_14 fl_X6_30 sh_37 fi_6_1 (hm) ?_
  refine P_iload_n (pc := 17) dX6_add_17 rfl ?_
  refine P_iast (pc := 18) ((m)) dX6_add_18 sh_38 rfl (by omega) (by decide) ?_
  refine P_aload_n (pc := 19) dX6_add_19 rfl ?_
  refine P_getr (pc := 20) 6 3 dX6_add_20 fl_X6_15 sh_37 fr_6_3 F_37_3 ?_
  refine P_aload_n (pc := 23) dX6_add_23 rfl ?_
  refine P_geti (pc := 24) 6 1 (x := nI (m)) dX6_add_24 fl_X6_30 sh_37 fi_6_1 (hm) ?_
  refine P_iload_n (pc := 27) dX6_add_27 rfl ?_
  refine P_iast (pc := 28) ((m)) dX6_add_28 sh_39 rfl (by omega) (by decide) ?_
  refine P_aload_n (pc := 29) dX6_add_29 rfl ?_
  refine P_getr (pc := 30) 6 4 dX6_add_30 fl_X6_20 sh_37 fr_6_4 F_37_4 ?_
  refine P_iload_n (pc := 33) dX6_add_33 rfl ?_
  refine P_aald (pc := 34) (a) dX6_add_34 sh_40 (by decide) rfl (by omega) (by decide) (Fr_40 _ (by omega)) ?_
  refine P_iload_n (pc := 35) dX6_add_35 rfl ?_
  refine P_iload_n (pc := 36) dX6_add_36 rfl ?_
  refine P_iast (pc := 37) (b) dX6_add_37 (shr_41 _ (by omega)) rfl (by omega) (by decide) ?_
  refine P_aload_n (pc := 38) dX6_add_38 rfl ?_
  refine P_getr (pc := 39) 6 4 dX6_add_39 fl_X6_20 sh_37 fr_6_4 F_37_4 ?_
  refine P_iload_n (pc := 42) dX6_add_42 rfl ?_
  refine P_aald (pc := 43) (b) dX6_add_43 sh_40 (by decide) rfl (by omega) (by decide) (Fr_40 _ (by omega)) ?_
  refine P_iload_n (pc := 44) dX6_add_44 rfl ?_
  refine P_iload_n (pc := 45) dX6_add_45 rfl ?_
  refine P_iast (pc := 46) (a) dX6_add_46 (shr_41 _ (by omega)) rfl (by omega) (by decide) ?_
  refine P_aload_n (pc := 47) dX6_add_47 rfl ?_
  refine P_dup (pc := 48) dX6_add_48 rfl ?_
  refine P_geti (pc := 49) 6 1 (x := nI (m)) dX6_add_49 fl_X6_30 sh_37 fi_6_1 (by rw [zu_o _ _ (by omega), zu_o _ _ (by omega), zu_o _ _ (by omega), zu_o _ _ (by omega)]; exact hm) ?_
  refine P_iconst (pc := 52) (x := nI 1) dX6_add_52 (by decide) ?_
  refine P_iaddN (pc := 53) dX6_add_53 ?_
  refine P_puti (pc := 54) 6 1 dX6_add_54 fl_X6_30 sh_37 fp_6_1 rfl rfl ?_
  exact P_ret (pc := 57) dX6_add_57 (⟨rfl, rfl, rfl⟩)
set_option maxRecDepth 20000 in
theorem c_wadd_36 {l : Launch} {D : va_G} {tw : Nat} {I : AI} {m k f a : Nat} (hm : I 62 4 = nI m) (hm2 : m < 4) : ZP l D zm_X10_add 0 (zent 4 [.ref 62, .int (nI k), .int (nI f), .int (nI a)]) [] I (zF tw) (fun v J G => v = none ∧ G = zF tw ∧ J = zWd I 62 m k f a) := by
  show ZP _ _ _ _ [some _, some _, some _, some _] _ _ _ _
  refine P_aload_n (pc := 0) dX10_add_0 rfl ?_
  refine P_geti (pc := 1) 10 4 (x := nI (m)) dX10_add_1 fl_X10_24 sh_62 fi_10_4 (hm) ?_
  refine P_iconst (pc := 4) (x := nI 4) dX10_add_4 (by decide) ?_
  refine P_icmp_geF (pc := 5) (tgt := 58) dX10_add_5 (by decide) (by rw [nI_leI (by omega) (by omega)]; omega) ?_
  refine P_aload_n (pc := 8) dX10_add_8 rfl ?_
  refine P_getr (pc := 9) 10 0 dX10_add_9 fl_X10_9 sh_62 fr_10_0 F_62_0 ?_
  refine P_aload_n (pc := 12) dX10_add_12 rfl ?_
  refine P_geti (pc := 13) 10 4 (x := nI (m)) dX10_add_13 fl_X10_24 sh_62 fi_10_4 (hm) ?_
  refine P_iload_n (pc := 16) dX10_add_16 rfl ?_
  refine P_iast (pc := 17) ((m)) dX10_add_17 sh_63 rfl (by omega) (by decide) ?_
  refine P_aload_n (pc := 18) dX10_add_18 rfl ?_
  refine P_getr (pc := 19) 10 1 dX10_add_19 fl_X10_15 sh_62 fr_10_1 F_62_1 ?_
  refine P_aload_n (pc := 22) dX10_add_22 rfl ?_
  refine P_geti (pc := 23) 10 4 (x := nI (m)) dX10_add_23 fl_X10_24 sh_62 fi_10_4 (hm) ?_
  refine P_iload_n (pc := 26) dX10_add_26 rfl ?_
  refine P_iast (pc := 27) ((m)) dX10_add_27 sh_64 rfl (by omega) (by decide) ?_
  refine P_aload_n (pc := 28) dX10_add_28 rfl ?_
  refine P_getr (pc := 29) 10 2 dX10_add_29 fl_X10_18 sh_62 fr_10_2 F_62_2 ?_
  refine P_aload_n (pc := 32) dX10_add_32 rfl ?_
  refine P_geti (pc := 33) 10 4 (x := nI (m)) dX10_add_33 fl_X10_24 sh_62 fi_10_4 (hm) ?_
  refine P_iload_n (pc := 36) dX10_add_36 rfl ?_
  refine P_iast (pc := 37) ((m)) dX10_add_37 sh_65 rfl (by omega) (by decide) ?_
  refine P_aload_n (pc := 38) dX10_add_38 rfl ?_
  refine P_getr (pc := 39) 10 3 dX10_add_39 fl_X10_21 sh_62 fr_10_3 F_62_3 ?_
  refine P_aload_n (pc := 42) dX10_add_42 rfl ?_
  refine P_geti (pc := 43) 10 4 (x := nI (m)) dX10_add_43 fl_X10_24 sh_62 fi_10_4 (hm) ?_
  refine P_iload_n (pc := 46) dX10_add_46 rfl ?_
  refine P_iast (pc := 47) ((m)) dX10_add_47 sh_66 rfl (by omega) (by decide) ?_
  refine P_aload_n (pc := 48) dX10_add_48 rfl ?_
  refine P_dup (pc := 49) dX10_add_49 rfl ?_
  refine P_geti (pc := 50) 10 4 (x := nI (m)) dX10_add_50 fl_X10_24 sh_62 fi_10_4 (hm) ?_
  refine P_iconst (pc := 53) (x := nI 1) dX10_add_53 (by decide) ?_
  refine P_iaddN (pc := 54) dX10_add_54 ?_
  refine P_puti (pc := 55) 10 4 dX10_add_55 fl_X10_24 sh_62 fp_10_4 rfl rfl ?_
  exact P_ret (pc := 58) dX10_add_58 (⟨rfl, rfl, rfl⟩)
