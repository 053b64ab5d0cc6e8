set_option maxRecDepth 20000 in
theorem c_weight {l : Launch} {D : va_G} {tw : Nat} {I : AI} {q n x : Nat} (hq : q < 2 ^ 31) (hn : n ≤ 8) (hx : x ≤ 10) : ZP l D zm_X11_weightOfTurned 0 (zent 5 [.int (nI q), .int (nI n), .int (nI x)]) [] I (zF tw) (fun v J G => v = some (nI (zWy x q n)) ∧ I = J ∧ G = zF tw) := by
  have loop : ∀ (d : Nat) (k : Nat), n - k < d → k ≤ n → ZP l D zm_X11_weightOfTurned 5 [some (.int (nI q)), some (.int (nI n)), some (.int (nI x)), some (.int (nI (zWy x q k))), some (.int (nI k))] [] I (zF tw) (fun v J G => v = some (nI (zWy x q n)) ∧ I = J ∧ G = zF tw) := by
    intro d
    induction d with
    | zero =>
      intro k hd
      exact absurd hd (by omega)
    | succ d ih =>
      intro k hd hk
      refine P_iload (pc := 5) dX11_weightOfTurned_5 rfl ?_
      refine P_iload_n (pc := 7) dX11_weightOfTurned_7 rfl ?_
      refine P_icmp_geN (pc := 8) (tgt := 38) dX11_weightOfTurned_8 (by decide) (by omega) (by omega) (fun h8 => ?_) (fun h8 => ?_)
      · refine P_iload_n (pc := 38) dX11_weightOfTurned_38 rfl ?_
        refine P_iret (pc := 39) dX11_weightOfTurned_39 ?_
        have hk2 : k = n := by omega
        subst hk2
        exact ⟨rfl, rfl, rfl⟩
      · refine P_iload_n (pc := 11) dX11_weightOfTurned_11 rfl ?_
        refine P_iload_n (pc := 12) dX11_weightOfTurned_12 rfl ?_
        refine P_iload (pc := 13) dX11_weightOfTurned_13 rfl ?_
        refine P_ishr (pc := 15) dX11_weightOfTurned_15 ?_
        refine P_iconst (pc := 16) (x := nI 1) dX11_weightOfTurned_16 (by decide) ?_
        refine P_iand (pc := 17) dX11_weightOfTurned_17 ?_
        rw [zbit_eq (by omega) (by omega)]
        have hb1 := zbit_le q k
        refine P_iconst (pc := 18) (x := nI 1) dX11_weightOfTurned_18 (by decide) ?_
        refine P_sel2 (pc := 19) (nI (if zbit q k = 1 then x else 10 - x)) 30 (fun k30_19 => ?_) ?_
        · refine P_icmp_neN (pc := 19) (tgt := 26) dX11_weightOfTurned_19 (by decide) (by omega) (by omega) (fun h19 => ?_) (fun h19 => ?_)
          · refine P_bipush (pc := 26) (x := nI 10) dX11_weightOfTurned_26 (by decide) ?_
            refine P_iload_n (pc := 28) dX11_weightOfTurned_28 rfl ?_
            refine P_isubN (pc := 29) dX11_weightOfTurned_29 (by omega) ?_
            exact k30_19 _ (by first | rw [if_neg h19] | rw [if_pos h19] | rw [if_pos (by omega)])
          · refine P_iload_n (pc := 22) dX11_weightOfTurned_22 rfl ?_
            refine P_goto (pc := 23) (tgt := 30) dX11_weightOfTurned_23 (by decide) ?_
            exact k30_19 _ (by first | rw [if_neg h19] | rw [if_pos h19] | rw [if_pos (by omega)])
        · refine P_imulN (pc := 30) dX11_weightOfTurned_30 ?_
          refine P_istore_n (pc := 31) dX11_weightOfTurned_31 (by decide) rfl ?_
          refine P_iincN (pc := 32) (c := 1) dX11_weightOfTurned_32 rfl (by decide) (by decide) rfl ?_
          refine P_goto (pc := 35) (tgt := 5) dX11_weightOfTurned_35 (by decide) ?_
          exact ih (k + 1) (by omega) (by omega)
  show ZP _ _ _ _ [some _, some _, some _, none, none] _ _ _ _
  refine P_iconst (pc := 0) (x := nI 1) dX11_weightOfTurned_0 (by decide) ?_
  refine P_istore_n (pc := 1) dX11_weightOfTurned_1 (by decide) rfl ?_
  refine P_iconst (pc := 2) (x := nI 0) dX11_weightOfTurned_2 (by decide) ?_
  refine P_istore (pc := 3) dX11_weightOfTurned_3 (by decide) rfl ?_
  exact loop (n + 1) 0 (by omega) (by omega)
set_option maxRecDepth 20000 in
theorem c_gcd {l : Launch} {D : va_G} {tw : Nat} {I : AI} {a0 b0 : Nat} (ha0 : a0 < 2 ^ 31) (hb0 : b0 < 2 ^ 17) : ZP l D zm_X11_commonDivisor 0 (zent 6 [.int (nI a0), .int (nI b0)]) [] I (zF tw) (fun v J G => v = some (nI (max 1 (Nat.gcd a0 b0))) ∧ I = J ∧ G = zF tw) := by
  have loop : ∀ (n k a b : Nat) (v5 : Option Value), n + k ≤ 100 → a < 2 ^ 31 → b < 2 ^ 31 → zEs n a b → Nat.gcd a b = Nat.gcd a0 b0 → ZP l D zm_X11_commonDivisor 7 [some (.int (nI a0)), some (.int (nI b0)), some (.int (nI a)), some (.int (nI b)), some (.int (nI k)), v5] [] I (zF tw) (fun v J G => v = some (nI (max 1 (Nat.gcd a0 b0))) ∧ I = J ∧ G = zF tw) := by
    intro n
    induction n with
    | zero =>
      intro k a b v5 hk ha hb hz hg
      have hz : b = 0 := hz
      refine P_iload (pc := 7) dX11_commonDivisor_7 rfl ?_
      refine P_bipush (pc := 9) (x := nI 100) dX11_commonDivisor_9 (by decide) ?_
      refine P_icmp_geN (pc := 11) (tgt := 34) dX11_commonDivisor_11 (by decide) (by first | omega | (have := Nat.gcd_pos_of_pos_right; omega)) (by first | omega | (have := Nat.gcd_pos_of_pos_right; omega)) (fun h11 => ?_) (fun h11 => ?_)
      · refine P_iconst (pc := 34) (x := nI 1) dX11_commonDivisor_34 (by decide) ?_
        refine P_iload_n (pc := 35) dX11_commonDivisor_35 rfl ?_
        refine P_mmaxN (pc := 36) dX11_commonDivisor_36 mm_X11_302 (by decide) (Nat.le_of_ble_eq_true rfl) (by first | omega | (have := Nat.gcd_pos_of_pos_right; omega)) (by first | omega | (have := Nat.gcd_pos_of_pos_right; omega)) ?_
        refine P_iret (pc := 39) dX11_commonDivisor_39 ?_
        have hb0 : b = 0 := hz
        subst hb0
        exact ⟨by rw [← hg, Nat.gcd_zero_right], rfl, rfl⟩
      · refine P_iload_n (pc := 14) dX11_commonDivisor_14 rfl ?_
        refine P_if_eqN (pc := 15) (tgt := 34) dX11_commonDivisor_15 (by decide) (by first | omega | (have := Nat.gcd_pos_of_pos_right; omega)) (fun h15 => ?_) (fun h15 => ?_)
        · refine P_iconst (pc := 34) (x := nI 1) dX11_commonDivisor_34 (by decide) ?_
          refine P_iload_n (pc := 35) dX11_commonDivisor_35 rfl ?_
          refine P_mmaxN (pc := 36) dX11_commonDivisor_36 mm_X11_302 (by decide) (Nat.le_of_ble_eq_true rfl) (by first | omega | (have := Nat.gcd_pos_of_pos_right; omega)) (by first | omega | (have := Nat.gcd_pos_of_pos_right; omega)) ?_
          refine P_iret (pc := 39) dX11_commonDivisor_39 ?_
          have hb0 : b = 0 := hz
          subst hb0
          exact ⟨by rw [← hg, Nat.gcd_zero_right], rfl, rfl⟩
        · refine P_iload_n (pc := 18) dX11_commonDivisor_18 rfl ?_
          refine P_iload_n (pc := 19) dX11_commonDivisor_19 rfl ?_
          refine P_iremN (pc := 20) dX11_commonDivisor_20 (by first | omega | (have := Nat.gcd_pos_of_pos_right; omega)) (by first | omega | (have := Nat.gcd_pos_of_pos_right; omega)) (by first | omega | (have := Nat.gcd_pos_of_pos_right; omega)) ?_
          refine P_istore (pc := 21) dX11_commonDivisor_21 (by decide) rfl ?_
          refine P_iload_n (pc := 23) dX11_commonDivisor_23 rfl ?_
          refine P_istore_n (pc := 24) dX11_commonDivisor_24 (by decide) rfl ?_
          refine P_iload (pc := 25) dX11_commonDivisor_25 rfl ?_
          refine P_istore_n (pc := 27) dX11_commonDivisor_27 (by decide) rfl ?_
          refine P_iincN (pc := 28) (c := 1) dX11_commonDivisor_28 rfl (by decide) (by decide) rfl ?_
          refine P_goto (pc := 31) (tgt := 7) dX11_commonDivisor_31 (by decide) ?_
          exact absurd hz (by omega)
    | succ n ihn =>
      intro k a b v5 hk ha hb hz hg
      have hz : b = 0 ∨ zEs n b (a % b) := hz
      refine P_iload (pc := 7) dX11_commonDivisor_7 rfl ?_
      refine P_bipush (pc := 9) (x := nI 100) dX11_commonDivisor_9 (by decide) ?_
      refine P_icmp_geN (pc := 11) (tgt := 34) dX11_commonDivisor_11 (by decide) (by omega) (by omega) (fun h11 => ?_) (fun h11 => ?_)
      · refine P_iconst (pc := 34) (x := nI 1) dX11_commonDivisor_34 (by decide) ?_
        refine P_iload_n (pc := 35) dX11_commonDivisor_35 rfl ?_
        refine P_mmaxN (pc := 36) dX11_commonDivisor_36 mm_X11_302 (by decide) (Nat.le_of_ble_eq_true rfl) (by omega) (by omega) ?_
        refine P_iret (pc := 39) dX11_commonDivisor_39 ?_
        have hb0 : b = 0 := absurd h11 (by omega)
        subst hb0
        exact ⟨by rw [← hg, Nat.gcd_zero_right], rfl, rfl⟩
      · refine P_iload_n (pc := 14) dX11_commonDivisor_14 rfl ?_
        refine P_if_eqN (pc := 15) (tgt := 34) dX11_commonDivisor_15 (by decide) (by omega) (fun h15 => ?_) (fun h15 => ?_)
        · refine P_iconst (pc := 34) (x := nI 1) dX11_commonDivisor_34 (by decide) ?_
          refine P_iload_n (pc := 35) dX11_commonDivisor_35 rfl ?_
          refine P_mmaxN (pc := 36) dX11_commonDivisor_36 mm_X11_302 (by decide) (Nat.le_of_ble_eq_true rfl) (by omega) (by omega) ?_
          refine P_iret (pc := 39) dX11_commonDivisor_39 ?_
          have hb0 : b = 0 := by omega
          subst hb0
          exact ⟨by rw [← hg, Nat.gcd_zero_right], rfl, rfl⟩
        · refine P_iload_n (pc := 18) dX11_commonDivisor_18 rfl ?_
          refine P_iload_n (pc := 19) dX11_commonDivisor_19 rfl ?_
          refine P_iremN (pc := 20) dX11_commonDivisor_20 (by omega) (by omega) (by omega) ?_
          have hml : a % b < b := Nat.mod_lt _ (by omega)
          refine P_istore (pc := 21) dX11_commonDivisor_21 (by decide) rfl ?_
          refine P_iload_n (pc := 23) dX11_commonDivisor_23 rfl ?_
          refine P_istore_n (pc := 24) dX11_commonDivisor_24 (by decide) rfl ?_
          refine P_iload (pc := 25) dX11_commonDivisor_25 rfl ?_
          refine P_istore_n (pc := 27) dX11_commonDivisor_27 (by decide) rfl ?_
          refine P_iincN (pc := 28) (c := 1) dX11_commonDivisor_28 rfl (by decide) (by decide) rfl ?_
          refine P_goto (pc := 31) (tgt := 7) dX11_commonDivisor_31 (by decide) ?_
          exact ihn (k + 1) b (a % b) _ (by omega) (by omega) (by omega) (hz.resolve_left (by omega)) ((gcd_step a b).symm.trans hg)
  show ZP _ _ _ _ [some _, some _, none, none, none, none] _ _ _ _
  refine P_iload_n (pc := 0) dX11_commonDivisor_0 rfl ?_
  refine P_istore_n (pc := 1) dX11_commonDivisor_1 (by decide) rfl ?_
  refine P_iload_n (pc := 2) dX11_commonDivisor_2 rfl ?_
  refine P_istore_n (pc := 3) dX11_commonDivisor_3 (by decide) rfl ?_
  refine P_iconst (pc := 4) (x := nI 0) dX11_commonDivisor_4 (by decide) ?_
  refine P_istore (pc := 5) dX11_commonDivisor_5 (by decide) rfl ?_
  exact loop 34 0 a0 b0 none (by omega) ha0 (by omega) (zEs_2 17 a0 b0 hb0) rfl
set_option maxRecDepth 20000 in
theorem c_turnSigns_5 {l : Launch} {D : va_G} {I : AI} {s : Nat → Nat → Nat} (hC : CR 5 s I) (hR : RInv s) {q n : Nat} (hq : q < 2 ^ 31) (hn : n ≤ s 122 0) : ZP l D zm_X11_turnSigns 0 (zent 4 [.ref 0, .int (nI q), .int (nI n)]) [] I (zF 5) (fun v J G => v = none ∧ G = zF 5 ∧ zGf 70 I J ∧ zTs s q n J) := by
  have hB1 := hC.st.2.1
  have hB2 := hC.wk.2.1
  have hB3 := hC.sg.2.1
  have hm8 := hR.1.2.2.1.1
  have loop : ∀ (d : Nat) (k : Nat) (J : AI), n - k < d → k ≤ n → zGf 70 I J → zTs s q k J → ZP l D zm_X11_turnSigns 16 [some (.ref 0), some (.int (nI q)), some (.int (nI n)), some (.int (nI k))] [] J (zF 5) (fun v J G => v = none ∧ G = zF 5 ∧ zGf 70 I J ∧ zTs s q n J) := by
    intro d
    induction d with
    | zero =>
      intro k J hd
      exact absurd hd (by omega)
    | succ d ih =>
      intro k J hd hk hF hS
      refine P_iload_n (pc := 16) dX11_turnSigns_16 rfl ?_
      refine P_iload_n (pc := 17) dX11_turnSigns_17 rfl ?_
      refine P_icmp_geN (pc := 18) (tgt := 73) dX11_turnSigns_18 (by decide) (by omega) (by omega) (fun h18 => ?_) (fun h18 => ?_)
      · refine P_ret (pc := 73) dX11_turnSigns_73 ?_
        have hk2 : k = n := by omega
        subst hk2
        exact ⟨rfl, rfl, hF, hS⟩
      · refine P_iload_n (pc := 21) dX11_turnSigns_21 rfl ?_
        refine P_iload_n (pc := 22) dX11_turnSigns_22 rfl ?_
        refine P_ishr (pc := 23) dX11_turnSigns_23 ?_
        refine P_iconst (pc := 24) (x := nI 1) dX11_turnSigns_24 (by decide) ?_
        refine P_iand (pc := 25) dX11_turnSigns_25 ?_
        rw [zbit_eq (by omega) (by omega)]
        have hb1 := zbit_le q k
        refine P_iconst (pc := 26) (x := nI 1) dX11_turnSigns_26 (by decide) ?_
        refine P_icmp_neN (pc := 27) (tgt := 67) dX11_turnSigns_27 (by decide) (by omega) (by omega) (fun h27 => ?_) (fun h27 => ?_)
        · refine P_iincN (pc := 67) (c := 1) dX11_turnSigns_67 rfl (by decide) (by decide) rfl ?_
          refine P_goto (pc := 70) (tgt := 16) dX11_turnSigns_70 (by decide) ?_
          exact ih (k + 1) J (by omega) (by omega) hF (zTs_k (by omega) hS)
        · refine P_aload_n (pc := 30) dX11_turnSigns_30 rfl ?_
          refine P_getr (pc := 31) 11 5 dX11_turnSigns_31 fl_X11_43 sh_0 fr_11_5 F_0_5 ?_
          refine P_getr (pc := 34) 5 2 dX11_turnSigns_34 fl_X11_164 sh_70 fr_5_2 F_70_2 ?_
          refine P_iload_n (pc := 37) dX11_turnSigns_37 rfl ?_
          refine P_aload_n (pc := 38) dX11_turnSigns_38 rfl ?_
          refine P_getr (pc := 39) 11 2 dX11_turnSigns_39 fl_X11_26 sh_0 fr_11_2 F_0_2 ?_
          refine P_getr (pc := 42) 8 0 dX11_turnSigns_42 fl_X11_125 sh_5 fr_8_0 F_5_0 ?_
          refine P_aload_n (pc := 45) dX11_turnSigns_45 rfl ?_
          refine P_getr (pc := 46) 11 5 dX11_turnSigns_46 fl_X11_43 sh_0 fr_11_5 F_0_5 ?_
          refine P_getr (pc := 49) 5 0 dX11_turnSigns_49 fl_X11_159 sh_70 fr_5_0 F_70_0 ?_
          refine P_iload_n (pc := 52) dX11_turnSigns_52 rfl ?_
          refine P_iald (pc := 53) (k) (x := nI (zTn s q k (352 + 1 + 3 * k))) dX11_turnSigns_53 sh_71 rfl (by omega) (by decide) ((hS.2.2 k (by omega)).1.1) ?_
          refine P_aload_n (pc := 54) dX11_turnSigns_54 rfl ?_
          refine P_getr (pc := 55) 11 5 dX11_turnSigns_55 fl_X11_43 sh_0 fr_11_5 F_0_5 ?_
          refine P_getr (pc := 58) 5 2 dX11_turnSigns_58 fl_X11_164 sh_70 fr_5_2 F_70_2 ?_
          refine P_iload_n (pc := 61) dX11_turnSigns_61 rfl ?_
          refine P_iald (pc := 62) (k) (x := nI (zTn s q k (352 + 1 + 3 * k + 2))) dX11_turnSigns_62 sh_73 rfl (by omega) (by decide) ((hS.2.2 k (by omega)).1.2.2) ?_
          have hb := hS.2.2 k (by omega)
          have hCJ := hC.sc hF.sc (Or.inl rfl)
          obtain ⟨_, _, _, kf, rfl, rfl, rfl⟩ := c_firstBut_5 (l := l) (D := D) (tw := 5) (I := J) hCJ.st (h := zTn s q k (352 + 1 + 3 * k)) (cm := some (zTn s q k (352 + 1 + 3 * k + 2))) hb.2.1 (fun m e => by cases e; exact hb.2.2.2)
          have hv8 := zTd_lt (nr := s 123) (c := zTn s q k (352 + 1 + 3 * k)) hB1 hb.2.2.2
          refine P_callV (pc := 63) (S := [_, _]) (As := [_, _]) kf dX11_turnSigns_63 ok_X6_firstBut ml_X11_314 iv_X6_firstBut ⟨by decide, by decide⟩ (zret_i _) rfl ⟨rfl, by decide⟩ sh_6 ⟨by decide, rfl⟩ (Nat.le_of_ble_eq_true rfl) ?_
          rw [zOnF_td]
          refine P_iast (pc := 66) (k) dX11_turnSigns_66 sh_73 rfl (by omega) (by decide) ?_
          refine P_iincN (pc := 67) (c := 1) dX11_turnSigns_67 rfl (by decide) (by decide) rfl ?_
          refine P_goto (pc := 70) (tgt := 16) dX11_turnSigns_70 (by decide) ?_
          exact ih (k + 1) _ (by omega) (by omega) (hF.u (by decide)) (zTs_t (by omega) hv8 hS)
  show ZP _ _ _ _ [some _, some _, some _, none] _ _ _ _
  refine P_aload_n (pc := 0) dX11_turnSigns_0 rfl ?_
  refine P_getr (pc := 1) 11 5 dX11_turnSigns_1 fl_X11_43 sh_0 fr_11_5 F_0_5 ?_
  refine P_aload_n (pc := 4) dX11_turnSigns_4 rfl ?_
  refine P_getr (pc := 5) 11 2 dX11_turnSigns_5 fl_X11_26 sh_0 fr_11_2 F_0_2 ?_
  refine P_getr (pc := 8) 8 1 dX11_turnSigns_8 fl_X11_156 sh_5 fr_8_1 F_5_1 ?_
  obtain ⟨_, K1, _, kc1, rfl, rfl, hc1, hc2⟩ := c_copyFrom_70_27 (l := l) (D := D) (tw := 5) (I := I) hC.sg
  refine P_callV (pc := 11) (S := []) (As := [_]) kc1 dX11_turnSigns_11 ok_X5_copyFrom ml_X11_236 iv_X5_copyFrom ⟨by decide, by decide⟩ zret_v rfl ⟨rfl, by decide⟩ sh_70 ⟨by decide, rfl⟩ (Nat.le_of_ble_eq_true rfl) ?_
  refine P_iconst (pc := 14) (x := nI 0) dX11_turnSigns_14 (by decide) ?_
  refine P_istore_n (pc := 15) dX11_turnSigns_15 (by decide) rfl ?_
  exact loop (n + 1) 0 K1 (by omega) (by omega) hc1 (zTs_0 hm8 hc2)
set_option maxRecDepth 20000 in
theorem c_mean11_5 {l : Launch} {D : va_G} {I : AI} {s : Nat → Nat → Nat} (hC : CR 5 s I) (hR : RInv s) {x0 y0 z0 : Int32} : ZP l D zm_X11_mean 0 (zent 9 [.ref 0, .int x0, .int y0, .int z0]) [] I (zF 5) (fun v J G => v = some (aMean s x0 y0 z0) ∧ G = zF 5 ∧ zSc 5 I J) := by
  have hB1 := hC.st.2.1
  have hB2 := hC.wk.2.1
  have hB3 := hC.sg.2.1
  have hm8 := hR.1.2.2.1.1
  show ZP _ _ _ _ [some _, some _, some _, some _, none, none, none, none, none] _ _ _ _
  refine P_iload_n (pc := 0) dX11_mean_0 rfl ?_
  refine P_bipush (pc := 1) (x := nI 6) dX11_mean_1 (by decide) ?_
  obtain ⟨_, _, _, kw1, rfl, rfl, rfl⟩ := c_isWithin (l := l) (D := D) (tw := 5) (I := I) (x := x0) (n := 6) (by omega)
  refine P_callS (pc := 3) (S := []) (As := [_, _]) kw1 dX11_mean_3 ok_X11_isWithin ml_X11_180 is_X11_isWithin ⟨by decide, by decide⟩ (zret_b (zix x0 6)) rfl ⟨rfl, by decide⟩ (Nat.le_of_ble_eq_true rfl) ?_
  refine P_if_eqB (pc := 6) (tgt := 26) dX11_mean_6 (by decide) (fun h6 => ?_) (fun h6 => ?_)
  · refine P_iconst (pc := 26) (x := (-1)) dX11_mean_26 (by decide) ?_
    exact P_iret (pc := 27) dX11_mean_27 (⟨by unfold aMean; rw [if_neg (by intro z; simp_all)], rfl, zSc.rf⟩)
  · obtain ⟨nn, hl_nn, rfl⟩ := zix_t h6 (by omega)
    refine P_iload_n (pc := 9) dX11_mean_9 rfl ?_
    refine P_bipush (pc := 10) (x := nI 11) dX11_mean_10 (by decide) ?_
    obtain ⟨_, _, _, kw2, rfl, rfl, rfl⟩ := c_isWithin (l := l) (D := D) (tw := 5) (I := I) (x := y0) (n := 11) (by omega)
    refine P_callS (pc := 12) (S := []) (As := [_, _]) kw2 dX11_mean_12 ok_X11_isWithin ml_X11_180 is_X11_isWithin ⟨by decide, by decide⟩ (zret_b (zix y0 11)) rfl ⟨rfl, by decide⟩ (Nat.le_of_ble_eq_true rfl) ?_
    refine P_if_eqB (pc := 15) (tgt := 26) dX11_mean_15 (by decide) (fun h15 => ?_) (fun h15 => ?_)
    · refine P_iconst (pc := 26) (x := (-1)) dX11_mean_26 (by decide) ?_
      exact P_iret (pc := 27) dX11_mean_27 (⟨by unfold aMean; rw [if_neg (by intro z; simp_all)], rfl, zSc.rf⟩)
    · obtain ⟨x, hl_x, rfl⟩ := zix_t h15 (by omega)
      refine P_iload_n (pc := 18) dX11_mean_18 rfl ?_
      refine P_iconst (pc := 19) (x := nI 2) dX11_mean_19 (by decide) ?_
      obtain ⟨_, _, _, kw3, rfl, rfl, rfl⟩ := c_isWithin (l := l) (D := D) (tw := 5) (I := I) (x := z0) (n := 2) (by omega)
      refine P_callS (pc := 20) (S := []) (As := [_, _]) kw3 dX11_mean_20 ok_X11_isWithin ml_X11_180 is_X11_isWithin ⟨by decide, by decide⟩ (zret_b (zix z0 2)) rfl ⟨rfl, by decide⟩ (Nat.le_of_ble_eq_true rfl) ?_
      refine P_if_neB (pc := 23) (tgt := 28) dX11_mean_23 (by decide) (fun h23 => ?_) (fun h23 => ?_)
      · obtain ⟨z, hl_z, rfl⟩ := zix_t h23 (by omega)
        refine P_iload_n (pc := 28) dX11_mean_28 rfl ?_
        refine P_aload_n (pc := 29) dX11_mean_29 rfl ?_
        refine P_getr (pc := 30) 11 2 dX11_mean_30 fl_X11_26 sh_0 fr_11_2 F_0_2 ?_
        refine P_getr (pc := 33) 8 1 dX11_mean_33 fl_X11_156 sh_5 fr_8_1 F_5_1 ?_
        refine P_geti (pc := 36) 5 3 (x := nI (s 122 0)) dX11_mean_36 fl_X11_214 sh_27 fi_5_3 (hC.sg.1) ?_
        refine P_mminN (pc := 39) dX11_mean_39 mm_X11_287 (by decide) (Nat.le_of_ble_eq_true rfl) (by omega) (by omega) ?_
        obtain ⟨m, hmd⟩ : ∃ m, m = min nn (s 122 0) := ⟨_, rfl⟩
        rw [← hmd]
        have hm0 : m ≤ s 122 0 := by omega
        have hm5 : m ≤ 5 := by omega
        have hp := p10 hm5
        refine P_istore (pc := 42) dX11_mean_42 (by decide) rfl ?_
        refine P_iconst (pc := 44) (x := nI 0) dX11_mean_44 (by decide) ?_
        refine P_istore (pc := 45) dX11_mean_45 (by decide) rfl ?_
        refine P_iconst (pc := 47) (x := nI 1) dX11_mean_47 (by decide) ?_
        refine P_istore (pc := 48) dX11_mean_48 (by decide) rfl ?_
        refine P_iconst (pc := 50) (x := nI 0) dX11_mean_50 (by decide) ?_
        refine P_istore (pc := 51) dX11_mean_51 (by decide) rfl ?_
        have loop2 : ∀ (d : Nat) (q : Nat) (v8 : Option Value) (J : AI), 2 ^ m - q < d → q ≤ 2 ^ m → zSc 5 I J → ZP l D zm_X11_mean 76 [some (.ref 0), some (.int (nI nn)), some (.int (nI x)), some (.int (nI z)), some (.int (nI m)), some (.int (nI (zUp s m x q))), some (.int (nI (10 ^ m))), some (.int (nI q)), v8] [] J (zF 5) (fun v J G => v = some (aMean s (nI nn) (nI x) (nI z)) ∧ G = zF 5 ∧ zSc 5 I J) := by
          intro d
          induction d with
          | zero =>
            intro q v8 J hd
            exact absurd hd (by omega)
          | succ d ih =>
            intro q v8 J hd hq hF
            refine P_iload (pc := 76) dX11_mean_76 rfl ?_
            refine P_iconst (pc := 78) (x := nI 1) dX11_mean_78 (by decide) ?_
            refine P_iload (pc := 79) dX11_mean_79 rfl ?_
            refine P_ishl (pc := 81) dX11_mean_81 ?_
            rw [zshl_eq (by omega)]
            refine P_icmp_geN (pc := 82) (tgt := 130) dX11_mean_82 (by decide) (by omega) (by omega) (fun h82 => ?_) (fun h82 => ?_)
            · refine P_iload_n (pc := 130) dX11_mean_130 rfl ?_
              refine P_sel1 (pc := 131) (nI (if z = 0 then zUp s m x q else 10 ^ m)) 141 (fun k141_131 => ?_) ?_
              · refine P_if_neN (pc := 131) (tgt := 139) dX11_mean_131 (by decide) (by omega) (fun h131 => ?_) (fun h131 => ?_)
                · refine P_iload (pc := 139) dX11_mean_139 rfl ?_
                  exact k141_131 _ (by first | rw [if_neg h131] | rw [if_pos (by omega)])
                · refine P_iload (pc := 134) dX11_mean_134 rfl ?_
                  refine P_goto (pc := 136) (tgt := 141) dX11_mean_136 (by decide) ?_
                  exact k141_131 _ (by first | rw [if_neg h131] | rw [if_pos (by omega)])
              · refine P_iload (pc := 141) dX11_mean_141 rfl ?_
                refine P_iload (pc := 143) dX11_mean_143 rfl ?_
                have hq2 : q = 2 ^ m := by omega
                subst hq2
                have hup := zUp_le hR.1.1 hR.1.2.1 hR.1.2.2.1.2 hm8 hm0 hm5 (by omega : x ≤ 10)
                obtain ⟨_, _, _, kg, rfl, rfl, rfl⟩ := c_gcd (l := l) (D := D) (tw := 5) (I := J) (a0 := zUp s m x (2 ^ m)) (b0 := 10 ^ m) (by omega) (by omega)
                have hgp : 0 < Nat.gcd (zUp s m x (2 ^ m)) (10 ^ m) := Nat.gcd_pos_of_pos_right _ hp.2.1
                have hgl : Nat.gcd (zUp s m x (2 ^ m)) (10 ^ m) ≤ 10 ^ m := Nat.gcd_le_right _ hp.2.1
                have hite : (if z = 0 then zUp s m x (2 ^ m) else 10 ^ m) < 2 ^ 31 := by split <;> omega
                refine P_callS (pc := 145) (S := [_]) (As := [_, _]) kg dX11_mean_145 ok_X11_commonDivisor ml_X11_299 is_X11_commonDivisor ⟨by decide, by decide⟩ (zret_i _) rfl ⟨rfl, by decide⟩ (Nat.le_of_ble_eq_true rfl) ?_
                rw [Nat.max_eq_right hgp]
                refine P_idivN (pc := 148) dX11_mean_148 (by omega) (by omega) (by omega) ?_
                refine P_iret (pc := 149) dX11_mean_149 ?_
                have ha : aMean s (nI nn) (nI x) (nI z) = nI ((if z = 0 then zUp s m x (2 ^ m) else 10 ^ m) / Nat.gcd (zUp s m x (2 ^ m)) (10 ^ m)) := by
                  unfold aMean
                  rw [if_pos ⟨h6, h15, h23⟩, nI_clamp (by omega), nI_clamp (by omega), nI_clamp (by omega), ← hmd]
                  by_cases hz0 : z = 0
                  · rw [if_pos hz0, if_pos hz0]
                  · rw [if_neg hz0, if_neg hz0]
                exact ⟨by rw [ha], rfl, hF⟩
            · refine P_iload (pc := 85) dX11_mean_85 rfl ?_
              refine P_iload (pc := 87) dX11_mean_87 rfl ?_
              refine P_iload_n (pc := 89) dX11_mean_89 rfl ?_
              obtain ⟨_, _, _, kw, rfl, rfl, rfl⟩ := c_weight (l := l) (D := D) (tw := 5) (I := J) (q := q) (n := m) (x := x) (by omega) (by omega) (by omega)
              have hwy := zWy_le (x := x) (m := q) (by omega) m
              refine P_callS (pc := 90) (S := []) (As := [_, _, _]) kw dX11_mean_90 ok_X11_weightOfTurned ml_X11_292 is_X11_weightOfTurned ⟨by decide, by decide⟩ (zret_i _) rfl ⟨rfl, by decide⟩ (Nat.le_of_ble_eq_true rfl) ?_
              refine P_istore (pc := 93) dX11_mean_93 (by decide) rfl ?_
              refine P_iload (pc := 95) dX11_mean_95 rfl ?_
              refine P_if_le (pc := 97) (tgt := 124) dX11_mean_97 (by decide) (fun h97 => ?_) (fun h97 => ?_)
              · refine P_iincN (pc := 124) (c := 1) dX11_mean_124 rfl (by decide) (by decide) rfl ?_
                refine P_goto (pc := 127) (tgt := 76) dX11_mean_127 (by decide) ?_
                have hw0 : zWy x q m = 0 := (nI_le0 (by omega)).mp h97
                have he : zUp s m x (q + 1) = zUp s m x q := by rw [show zUp s m x (q + 1) = zUp s m x q + zWy x q m * taxAt (sT s (zTn s q m)) 352 from rfl, hw0, Nat.zero_mul, Nat.add_zero]
                have h9 := ih (q + 1) (some (.int (nI (zWy x q m)))) J (by omega) (by omega) hF
                rw [he] at h9
                exact h9
              · refine P_aload_n (pc := 100) dX11_mean_100 rfl ?_
                refine P_iload (pc := 101) dX11_mean_101 rfl ?_
                refine P_iload (pc := 103) dX11_mean_103 rfl ?_
                have hCJ := hC.sc hF (Or.inl rfl)
                obtain ⟨_, K1, _, ks, rfl, rfl, hs1, hs2⟩ := c_turnSigns_5 (l := l) (D := D) (I := J) hCJ hR (q := q) (n := m) (by omega) hm0
                have hC1 := hCJ.sc hs1.sc (Or.inl rfl)
                refine P_callV (pc := 105) (S := []) (As := [_, _]) ks dX11_mean_105 ok_X11_turnSigns ml_X11_296 iv_X11_turnSigns ⟨by decide, by decide⟩ zret_v rfl ⟨rfl, by decide⟩ sh_0 ⟨by decide, rfl⟩ (Nat.le_of_ble_eq_true rfl) ?_
                refine P_iload (pc := 108) dX11_mean_108 rfl ?_
                refine P_iload (pc := 110) dX11_mean_110 rfl ?_
                refine P_aload_n (pc := 112) dX11_mean_112 rfl ?_
                refine P_aload_n (pc := 113) dX11_mean_113 rfl ?_
                refine P_getr (pc := 114) 11 5 dX11_mean_114 fl_X11_43 sh_0 fr_11_5 F_0_5 ?_
                obtain ⟨_, K, _, kt, rfl, rfl, hK⟩ := c_taxBy_5_70 (l := l) (D := D) (I := K1) hC1.st (zTs_tr hs2) (CWk.c hC1.wk (fun i hi => ⟨rfl, rfl, rfl, (zTn_w (by omega) (by omega) : sT s (zTn s q m) 122 (352 + 28 + i) = s 122 (28 + i))⟩)) hC1.rt hR.1.2.2.2.2.2 hR.1.1.2.2.1
                refine P_callV (pc := 117) (S := [_, _]) (As := [_]) kt dX11_mean_117 ok_X11_taxBy ml_X11_210 iv_X11_taxBy ⟨by decide, by decide⟩ (zret_i _) rfl ⟨rfl, by decide⟩ sh_0 ⟨by decide, rfl⟩ (Nat.le_of_ble_eq_true rfl) ?_
                refine P_imulN (pc := 120) dX11_mean_120 ?_
                refine P_iaddN (pc := 121) dX11_mean_121 ?_
                refine P_istore (pc := 122) dX11_mean_122 (by decide) rfl ?_
                refine P_iincN (pc := 124) (c := 1) dX11_mean_124 rfl (by decide) (by decide) rfl ?_
                refine P_goto (pc := 127) (tgt := 76) dX11_mean_127 (by decide) ?_
                exact ih (q + 1) _ K (by omega) (by omega) ((hF.trans hs1.sc).trans hK.sc)
        have loop1 : ∀ (d : Nat) (k : Nat), m - k < d → k ≤ m → ZP l D zm_X11_mean 53 [some (.ref 0), some (.int (nI nn)), some (.int (nI x)), some (.int (nI z)), some (.int (nI m)), some (.int (nI 0)), some (.int (nI (10 ^ k))), some (.int (nI k)), none] [] I (zF 5) (fun v J G => v = some (aMean s (nI nn) (nI x) (nI z)) ∧ G = zF 5 ∧ zSc 5 I J) := by
          intro d
          induction d with
          | zero =>
            intro k hd
            exact absurd hd (by omega)
          | succ d ih =>
            intro k hd hk
            refine P_iload (pc := 53) dX11_mean_53 rfl ?_
            refine P_iload (pc := 55) dX11_mean_55 rfl ?_
            refine P_icmp_geN (pc := 57) (tgt := 73) dX11_mean_57 (by decide) (by omega) (by omega) (fun h57 => ?_) (fun h57 => ?_)
            · refine P_iconst (pc := 73) (x := nI 0) dX11_mean_73 (by decide) ?_
              refine P_istore (pc := 74) dX11_mean_74 (by decide) rfl ?_
              have hk2 : k = m := by omega
              subst hk2
              exact loop2 (2 ^ k + 1) 0 none I (Nat.lt_succ_of_le (Nat.sub_le _ _)) (Nat.zero_le _) zSc.rf
            · refine P_iload (pc := 60) dX11_mean_60 rfl ?_
              refine P_bipush (pc := 62) (x := nI 10) dX11_mean_62 (by decide) ?_
              refine P_imulN (pc := 64) dX11_mean_64 ?_
              refine P_istore (pc := 65) dX11_mean_65 (by decide) rfl ?_
              refine P_iincN (pc := 67) (c := 1) dX11_mean_67 rfl (by decide) (by decide) rfl ?_
              refine P_goto (pc := 70) (tgt := 53) dX11_mean_70 (by decide) ?_
              exact ih (k + 1) (by omega) (by omega)
        exact loop1 (m + 1) 0 (by omega) (by omega)
      · refine P_iconst (pc := 26) (x := (-1)) dX11_mean_26 (by decide) ?_
        exact P_iret (pc := 27) dX11_mean_27 (⟨by unfold aMean; rw [if_neg (by intro z; simp_all)], rfl, zSc.rf⟩)
set_option maxRecDepth 20000 in
theorem c_turnSigns_36 {l : Launch} {D : va_G} {I : AI} {s : Nat → Nat → Nat} (hC : CR 36 s I) (hR : RInv s) {q n : Nat} (hq : q < 2 ^ 31) (hn : n ≤ s 122 0) : ZP l D zm_X11_turnSigns 0 (zent 4 [.ref 0, .int (nI q), .int (nI n)]) [] I (zF 36) (fun v J G => v = none ∧ G = zF 36 ∧ zGf 70 I J ∧ zTs s q n J) := by
  have hB1 := hC.st.2.1
  have hB2 := hC.wk.2.1
  have hB3 := hC.sg.2.1
  have hm8 := hR.1.2.2.1.1
  have loop : ∀ (d : Nat) (k : Nat) (J : AI), n - k < d → k ≤ n → zGf 70 I J → zTs s q k J → ZP l D zm_X11_turnSigns 16 [some (.ref 0), some (.int (nI q)), some (.int (nI n)), some (.int (nI k))] [] J (zF 36) (fun v J G => v = none ∧ G = zF 36 ∧ zGf 70 I J ∧ zTs s q n J) := by
    intro d
    induction d with
    | zero =>
      intro k J hd
      exact absurd hd (by omega)
    | succ d ih =>
      intro k J hd hk hF hS
      refine P_iload_n (pc := 16) dX11_turnSigns_16 rfl ?_
      refine P_iload_n (pc := 17) dX11_turnSigns_17 rfl ?_
      refine P_icmp_geN (pc := 18) (tgt := 73) dX11_turnSigns_18 (by decide) (by omega) (by omega) (fun h18 => ?_) (fun h18 => ?_)
      · refine P_ret (pc := 73) dX11_turnSigns_73 ?_
        have hk2 : k = n := by omega
        subst hk2
        exact ⟨rfl, rfl, hF, hS⟩
      · refine P_iload_n (pc := 21) dX11_turnSigns_21 rfl ?_
        refine P_iload_n (pc := 22) dX11_turnSigns_22 rfl ?_
        refine P_ishr (pc := 23) dX11_turnSigns_23 ?_
        refine P_iconst (pc := 24) (x := nI 1) dX11_turnSigns_24 (by decide) ?_
        refine P_iand (pc := 25) dX11_turnSigns_25 ?_
        rw [zbit_eq (by omega) (by omega)]
        have hb1 := zbit_le q k
        refine P_iconst (pc := 26) (x := nI 1) dX11_turnSigns_26 (by decide) ?_
        refine P_icmp_neN (pc := 27) (tgt := 67) dX11_turnSigns_27 (by decide) (by omega) (by omega) (fun h27 => ?_) (fun h27 => ?_)
        · refine P_iincN (pc := 67) (c := 1) dX11_turnSigns_67 rfl (by decide) (by decide) rfl ?_
          refine P_goto (pc := 70) (tgt := 16) dX11_turnSigns_70 (by decide) ?_
          exact ih (k + 1) J (by omega) (by omega) hF (zTs_k (by omega) hS)
        · refine P_aload_n (pc := 30) dX11_turnSigns_30 rfl ?_
          refine P_getr (pc := 31) 11 5 dX11_turnSigns_31 fl_X11_43 sh_0 fr_11_5 F_0_5 ?_
          refine P_getr (pc := 34) 5 2 dX11_turnSigns_34 fl_X11_164 sh_70 fr_5_2 F_70_2 ?_
          refine P_iload_n (pc := 37) dX11_turnSigns_37 rfl ?_
          refine P_aload_n (pc := 38) dX11_turnSigns_38 rfl ?_
          refine P_getr (pc := 39) 11 2 dX11_turnSigns_39 fl_X11_26 sh_0 fr_11_2 F_0_2 ?_
          refine P_getr (pc := 42) 8 0 dX11_turnSigns_42 fl_X11_125 sh_36 fr_8_0 F_36_0 ?_
          refine P_aload_n (pc := 45) dX11_turnSigns_45 rfl ?_
          refine P_getr (pc := 46) 11 5 dX11_turnSigns_46 fl_X11_43 sh_0 fr_11_5 F_0_5 ?_
          refine P_getr (pc := 49) 5 0 dX11_turnSigns_49 fl_X11_159 sh_70 fr_5_0 F_70_0 ?_
          refine P_iload_n (pc := 52) dX11_turnSigns_52 rfl ?_
          refine P_iald (pc := 53) (k) (x := nI (zTn s q k (352 + 1 + 3 * k))) dX11_turnSigns_53 sh_71 rfl (by omega) (by decide) ((hS.2.2 k (by omega)).1.1) ?_
          refine P_aload_n (pc := 54) dX11_turnSigns_54 rfl ?_
          refine P_getr (pc := 55) 11 5 dX11_turnSigns_55 fl_X11_43 sh_0 fr_11_5 F_0_5 ?_
          refine P_getr (pc := 58) 5 2 dX11_turnSigns_58 fl_X11_164 sh_70 fr_5_2 F_70_2 ?_
          refine P_iload_n (pc := 61) dX11_turnSigns_61 rfl ?_
          refine P_iald (pc := 62) (k) (x := nI (zTn s q k (352 + 1 + 3 * k + 2))) dX11_turnSigns_62 sh_73 rfl (by omega) (by decide) ((hS.2.2 k (by omega)).1.2.2) ?_
          have hb := hS.2.2 k (by omega)
          have hCJ := hC.sc hF.sc (Or.inr rfl)
          obtain ⟨_, _, _, kf, rfl, rfl, rfl⟩ := c_firstBut_36 (l := l) (D := D) (tw := 36) (I := J) hCJ.st (h := zTn s q k (352 + 1 + 3 * k)) (cm := some (zTn s q k (352 + 1 + 3 * k + 2))) hb.2.1 (fun m e => by cases e; exact hb.2.2.2)
          have hv8 := zTd_lt (nr := s 123) (c := zTn s q k (352 + 1 + 3 * k)) hB1 hb.2.2.2
          refine P_callV (pc := 63) (S := [_, _]) (As := [_, _]) kf dX11_turnSigns_63 ok_X6_firstBut ml_X11_314 iv_X6_firstBut ⟨by decide, by decide⟩ (zret_i _) rfl ⟨rfl, by decide⟩ sh_37 ⟨by decide, rfl⟩ (Nat.le_of_ble_eq_true rfl) ?_
          rw [zOnF_td]
          refine P_iast (pc := 66) (k) dX11_turnSigns_66 sh_73 rfl (by omega) (by decide) ?_
          refine P_iincN (pc := 67) (c := 1) dX11_turnSigns_67 rfl (by decide) (by decide) rfl ?_
          refine P_goto (pc := 70) (tgt := 16) dX11_turnSigns_70 (by decide) ?_
          exact ih (k + 1) _ (by omega) (by omega) (hF.u (by decide)) (zTs_t (by omega) hv8 hS)
  show ZP _ _ _ _ [some _, some _, some _, none] _ _ _ _
  refine P_aload_n (pc := 0) dX11_turnSigns_0 rfl ?_
  refine P_getr (pc := 1) 11 5 dX11_turnSigns_1 fl_X11_43 sh_0 fr_11_5 F_0_5 ?_
  refine P_aload_n (pc := 4) dX11_turnSigns_4 rfl ?_
  refine P_getr (pc := 5) 11 2 dX11_turnSigns_5 fl_X11_26 sh_0 fr_11_2 F_0_2 ?_
  refine P_getr (pc := 8) 8 1 dX11_turnSigns_8 fl_X11_156 sh_36 fr_8_1 F_36_1 ?_
  obtain ⟨_, K1, _, kc1, rfl, rfl, hc1, hc2⟩ := c_copyFrom_70_58 (l := l) (D := D) (tw := 36) (I := I) hC.sg
  refine P_callV (pc := 11) (S := []) (As := [_]) kc1 dX11_turnSigns_11 ok_X5_copyFrom ml_X11_236 iv_X5_copyFrom ⟨by decide, by decide⟩ zret_v rfl ⟨rfl, by decide⟩ sh_70 ⟨by decide, rfl⟩ (Nat.le_of_ble_eq_true rfl) ?_
  refine P_iconst (pc := 14) (x := nI 0) dX11_turnSigns_14 (by decide) ?_
  refine P_istore_n (pc := 15) dX11_turnSigns_15 (by decide) rfl ?_
  exact loop (n + 1) 0 K1 (by omega) (by omega) hc1 (zTs_0 hm8 hc2)
set_option maxRecDepth 20000 in
theorem c_mean11_36 {l : Launch} {D : va_G} {I : AI} {s : Nat → Nat → Nat} (hC : CR 36 s I) (hR : RInv s) {x0 y0 z0 : Int32} : ZP l D zm_X11_mean 0 (zent 9 [.ref 0, .int x0, .int y0, .int z0]) [] I (zF 36) (fun v J G => v = some (aMean s x0 y0 z0) ∧ G = zF 36 ∧ zSc 36 I J) := by
  have hB1 := hC.st.2.1
  have hB2 := hC.wk.2.1
  have hB3 := hC.sg.2.1
  have hm8 := hR.1.2.2.1.1
  show ZP _ _ _ _ [some _, some _, some _, some _, none, none, none, none, none] _ _ _ _
  refine P_iload_n (pc := 0) dX11_mean_0 rfl ?_
  refine P_bipush (pc := 1) (x := nI 6) dX11_mean_1 (by decide) ?_
  obtain ⟨_, _, _, kw1, rfl, rfl, rfl⟩ := c_isWithin (l := l) (D := D) (tw := 36) (I := I) (x := x0) (n := 6) (by omega)
  refine P_callS (pc := 3) (S := []) (As := [_, _]) kw1 dX11_mean_3 ok_X11_isWithin ml_X11_180 is_X11_isWithin ⟨by decide, by decide⟩ (zret_b (zix x0 6)) rfl ⟨rfl, by decide⟩ (Nat.le_of_ble_eq_true rfl) ?_
  refine P_if_eqB (pc := 6) (tgt := 26) dX11_mean_6 (by decide) (fun h6 => ?_) (fun h6 => ?_)
  · refine P_iconst (pc := 26) (x := (-1)) dX11_mean_26 (by decide) ?_
    exact P_iret (pc := 27) dX11_mean_27 (⟨by unfold aMean; rw [if_neg (by intro z; simp_all)], rfl, zSc.rf⟩)
  · obtain ⟨nn, hl_nn, rfl⟩ := zix_t h6 (by omega)
    refine P_iload_n (pc := 9) dX11_mean_9 rfl ?_
    refine P_bipush (pc := 10) (x := nI 11) dX11_mean_10 (by decide) ?_
    obtain ⟨_, _, _, kw2, rfl, rfl, rfl⟩ := c_isWithin (l := l) (D := D) (tw := 36) (I := I) (x := y0) (n := 11) (by omega)
    refine P_callS (pc := 12) (S := []) (As := [_, _]) kw2 dX11_mean_12 ok_X11_isWithin ml_X11_180 is_X11_isWithin ⟨by decide, by decide⟩ (zret_b (zix y0 11)) rfl ⟨rfl, by decide⟩ (Nat.le_of_ble_eq_true rfl) ?_
    refine P_if_eqB (pc := 15) (tgt := 26) dX11_mean_15 (by decide) (fun h15 => ?_) (fun h15 => ?_)
    · refine P_iconst (pc := 26) (x := (-1)) dX11_mean_26 (by decide) ?_
      exact P_iret (pc := 27) dX11_mean_27 (⟨by unfold aMean; rw [if_neg (by intro z; simp_all)], rfl, zSc.rf⟩)
    · obtain ⟨x, hl_x, rfl⟩ := zix_t h15 (by omega)
      refine P_iload_n (pc := 18) dX11_mean_18 rfl ?_
      refine P_iconst (pc := 19) (x := nI 2) dX11_mean_19 (by decide) ?_
      obtain ⟨_, _, _, kw3, rfl, rfl, rfl⟩ := c_isWithin (l := l) (D := D) (tw := 36) (I := I) (x := z0) (n := 2) (by omega)
      refine P_callS (pc := 20) (S := []) (As := [_, _]) kw3 dX11_mean_20 ok_X11_isWithin ml_X11_180 is_X11_isWithin ⟨by decide, by decide⟩ (zret_b (zix z0 2)) rfl ⟨rfl, by decide⟩ (Nat.le_of_ble_eq_true rfl) ?_
      refine P_if_neB (pc := 23) (tgt := 28) dX11_mean_23 (by decide) (fun h23 => ?_) (fun h23 => ?_)
      · obtain ⟨z, hl_z, rfl⟩ := zix_t h23 (by omega)
        refine P_iload_n (pc := 28) dX11_mean_28 rfl ?_
        refine P_aload_n (pc := 29) dX11_mean_29 rfl ?_
        refine P_getr (pc := 30) 11 2 dX11_mean_30 fl_X11_26 sh_0 fr_11_2 F_0_2 ?_
        refine P_getr (pc := 33) 8 1 dX11_mean_33 fl_X11_156 sh_36 fr_8_1 F_36_1 ?_
        refine P_geti (pc := 36) 5 3 (x := nI (s 122 0)) dX11_mean_36 fl_X11_214 sh_58 fi_5_3 (hC.sg.1) ?_
        refine P_mminN (pc := 39) dX11_mean_39 mm_X11_287 (by decide) (Nat.le_of_ble_eq_true rfl) (by omega) (by omega) ?_
        obtain ⟨m, hmd⟩ : ∃ m, m = min nn (s 122 0) := ⟨_, rfl⟩
        rw [← hmd]
        have hm0 : m ≤ s 122 0 := by omega
        have hm5 : m ≤ 5 := by omega
        have hp := p10 hm5
        refine P_istore (pc := 42) dX11_mean_42 (by decide) rfl ?_
        refine P_iconst (pc := 44) (x := nI 0) dX11_mean_44 (by decide) ?_
        refine P_istore (pc := 45) dX11_mean_45 (by decide) rfl ?_
        refine P_iconst (pc := 47) (x := nI 1) dX11_mean_47 (by decide) ?_
        refine P_istore (pc := 48) dX11_mean_48 (by decide) rfl ?_
        refine P_iconst (pc := 50) (x := nI 0) dX11_mean_50 (by decide) ?_
        refine P_istore (pc := 51) dX11_mean_51 (by decide) rfl ?_
        have loop2 : ∀ (d : Nat) (q : Nat) (v8 : Option Value) (J : AI), 2 ^ m - q < d → q ≤ 2 ^ m → zSc 36 I J → ZP l D zm_X11_mean 76 [some (.ref 0), some (.int (nI nn)), some (.int (nI x)), some (.int (nI z)), some (.int (nI m)), some (.int (nI (zUp s m x q))), some (.int (nI (10 ^ m))), some (.int (nI q)), v8] [] J (zF 36) (fun v J G => v = some (aMean s (nI nn) (nI x) (nI z)) ∧ G = zF 36 ∧ zSc 36 I J) := by
          intro d
          induction d with
          | zero =>
            intro q v8 J hd
            exact absurd hd (by omega)
          | succ d ih =>
            intro q v8 J hd hq hF
            refine P_iload (pc := 76) dX11_mean_76 rfl ?_
            refine P_iconst (pc := 78) (x := nI 1) dX11_mean_78 (by decide) ?_
            refine P_iload (pc := 79) dX11_mean_79 rfl ?_
            refine P_ishl (pc := 81) dX11_mean_81 ?_
            rw [zshl_eq (by omega)]
            refine P_icmp_geN (pc := 82) (tgt := 130) dX11_mean_82 (by decide) (by omega) (by omega) (fun h82 => ?_) (fun h82 => ?_)
            · refine P_iload_n (pc := 130) dX11_mean_130 rfl ?_
              refine P_sel1 (pc := 131) (nI (if z = 0 then zUp s m x q else 10 ^ m)) 141 (fun k141_131 => ?_) ?_
              · refine P_if_neN (pc := 131) (tgt := 139) dX11_mean_131 (by decide) (by omega) (fun h131 => ?_) (fun h131 => ?_)
                · refine P_iload (pc := 139) dX11_mean_139 rfl ?_
                  exact k141_131 _ (by first | rw [if_neg h131] | rw [if_pos (by omega)])
                · refine P_iload (pc := 134) dX11_mean_134 rfl ?_
                  refine P_goto (pc := 136) (tgt := 141) dX11_mean_136 (by decide) ?_
                  exact k141_131 _ (by first | rw [if_neg h131] | rw [if_pos (by omega)])
              · refine P_iload (pc := 141) dX11_mean_141 rfl ?_
                refine P_iload (pc := 143) dX11_mean_143 rfl ?_
                have hq2 : q = 2 ^ m := by omega
                subst hq2
                have hup := zUp_le hR.1.1 hR.1.2.1 hR.1.2.2.1.2 hm8 hm0 hm5 (by omega : x ≤ 10)
                obtain ⟨_, _, _, kg, rfl, rfl, rfl⟩ := c_gcd (l := l) (D := D) (tw := 36) (I := J) (a0 := zUp s m x (2 ^ m)) (b0 := 10 ^ m) (by omega) (by omega)
                have hgp : 0 < Nat.gcd (zUp s m x (2 ^ m)) (10 ^ m) := Nat.gcd_pos_of_pos_right _ hp.2.1
                have hgl : Nat.gcd (zUp s m x (2 ^ m)) (10 ^ m) ≤ 10 ^ m := Nat.gcd_le_right _ hp.2.1
                have hite : (if z = 0 then zUp s m x (2 ^ m) else 10 ^ m) < 2 ^ 31 := by split <;> omega
                refine P_callS (pc := 145) (S := [_]) (As := [_, _]) kg dX11_mean_145 ok_X11_commonDivisor ml_X11_299 is_X11_commonDivisor ⟨by decide, by decide⟩ (zret_i _) rfl ⟨rfl, by decide⟩ (Nat.le_of_ble_eq_true rfl) ?_
                rw [Nat.max_eq_right hgp]
                refine P_idivN (pc := 148) dX11_mean_148 (by omega) (by omega) (by omega) ?_
                refine P_iret (pc := 149) dX11_mean_149 ?_
                have ha : aMean s (nI nn) (nI x) (nI z) = nI ((if z = 0 then zUp s m x (2 ^ m) else 10 ^ m) / Nat.gcd (zUp s m x (2 ^ m)) (10 ^ m)) := by
                  unfold aMean
                  rw [if_pos ⟨h6, h15, h23⟩, nI_clamp (by omega), nI_clamp (by omega), nI_clamp (by omega), ← hmd]
                  by_cases hz0 : z = 0
                  · rw [if_pos hz0, if_pos hz0]
                  · rw [if_neg hz0, if_neg hz0]
                exact ⟨by rw [ha], rfl, hF⟩
            · refine P_iload (pc := 85) dX11_mean_85 rfl ?_
              refine P_iload (pc := 87) dX11_mean_87 rfl ?_
              refine P_iload_n (pc := 89) dX11_mean_89 rfl ?_
              obtain ⟨_, _, _, kw, rfl, rfl, rfl⟩ := c_weight (l := l) (D := D) (tw := 36) (I := J) (q := q) (n := m) (x := x) (by omega) (by omega) (by omega)
              have hwy := zWy_le (x := x) (m := q) (by omega) m
              refine P_callS (pc := 90) (S := []) (As := [_, _, _]) kw dX11_mean_90 ok_X11_weightOfTurned ml_X11_292 is_X11_weightOfTurned ⟨by decide, by decide⟩ (zret_i _) rfl ⟨rfl, by decide⟩ (Nat.le_of_ble_eq_true rfl) ?_
              refine P_istore (pc := 93) dX11_mean_93 (by decide) rfl ?_
              refine P_iload (pc := 95) dX11_mean_95 rfl ?_
              refine P_if_le (pc := 97) (tgt := 124) dX11_mean_97 (by decide) (fun h97 => ?_) (fun h97 => ?_)
              · refine P_iincN (pc := 124) (c := 1) dX11_mean_124 rfl (by decide) (by decide) rfl ?_
                refine P_goto (pc := 127) (tgt := 76) dX11_mean_127 (by decide) ?_
                have hw0 : zWy x q m = 0 := (nI_le0 (by omega)).mp h97
                have he : zUp s m x (q + 1) = zUp s m x q := by rw [show zUp s m x (q + 1) = zUp s m x q + zWy x q m * taxAt (sT s (zTn s q m)) 352 from rfl, hw0, Nat.zero_mul, Nat.add_zero]
                have h9 := ih (q + 1) (some (.int (nI (zWy x q m)))) J (by omega) (by omega) hF
                rw [he] at h9
                exact h9
              · refine P_aload_n (pc := 100) dX11_mean_100 rfl ?_
                refine P_iload (pc := 101) dX11_mean_101 rfl ?_
                refine P_iload (pc := 103) dX11_mean_103 rfl ?_
                have hCJ := hC.sc hF (Or.inr rfl)
                obtain ⟨_, K1, _, ks, rfl, rfl, hs1, hs2⟩ := c_turnSigns_36 (l := l) (D := D) (I := J) hCJ hR (q := q) (n := m) (by omega) hm0
                have hC1 := hCJ.sc hs1.sc (Or.inr rfl)
                refine P_callV (pc := 105) (S := []) (As := [_, _]) ks dX11_mean_105 ok_X11_turnSigns ml_X11_296 iv_X11_turnSigns ⟨by decide, by decide⟩ zret_v rfl ⟨rfl, by decide⟩ sh_0 ⟨by decide, rfl⟩ (Nat.le_of_ble_eq_true rfl) ?_
                refine P_iload (pc := 108) dX11_mean_108 rfl ?_
                refine P_iload (pc := 110) dX11_mean_110 rfl ?_
                refine P_aload_n (pc := 112) dX11_mean_112 rfl ?_
                refine P_aload_n (pc := 113) dX11_mean_113 rfl ?_
                refine P_getr (pc := 114) 11 5 dX11_mean_114 fl_X11_43 sh_0 fr_11_5 F_0_5 ?_
                obtain ⟨_, K, _, kt, rfl, rfl, hK⟩ := c_taxBy_36_70 (l := l) (D := D) (I := K1) hC1.st (zTs_tr hs2) (CWk.c hC1.wk (fun i hi => ⟨rfl, rfl, rfl, (zTn_w (by omega) (by omega) : sT s (zTn s q m) 122 (352 + 28 + i) = s 122 (28 + i))⟩)) hC1.rt hR.1.2.2.2.2.2 hR.1.1.2.2.1
                refine P_callV (pc := 117) (S := [_, _]) (As := [_]) kt dX11_mean_117 ok_X11_taxBy ml_X11_210 iv_X11_taxBy ⟨by decide, by decide⟩ (zret_i _) rfl ⟨rfl, by decide⟩ sh_0 ⟨by decide, rfl⟩ (Nat.le_of_ble_eq_true rfl) ?_
                refine P_imulN (pc := 120) dX11_mean_120 ?_
                refine P_iaddN (pc := 121) dX11_mean_121 ?_
                refine P_istore (pc := 122) dX11_mean_122 (by decide) rfl ?_
                refine P_iincN (pc := 124) (c := 1) dX11_mean_124 rfl (by decide) (by decide) rfl ?_
                refine P_goto (pc := 127) (tgt := 76) dX11_mean_127 (by decide) ?_
                exact ih (q + 1) _ K (by omega) (by omega) ((hF.trans hs1.sc).trans hK.sc)
        have loop1 : ∀ (d : Nat) (k : Nat), m - k < d → k ≤ m → ZP l D zm_X11_mean 53 [some (.ref 0), some (.int (nI nn)), some (.int (nI x)), some (.int (nI z)), some (.int (nI m)), some (.int (nI 0)), some (.int (nI (10 ^ k))), some (.int (nI k)), none] [] I (zF 36) (fun v J G => v = some (aMean s (nI nn) (nI x) (nI z)) ∧ G = zF 36 ∧ zSc 36 I J) := by
          intro d
          induction d with
          | zero =>
            intro k hd
            exact absurd hd (by omega)
          | succ d ih =>
            intro k hd hk
            refine P_iload (pc := 53) dX11_mean_53 rfl ?_
            refine P_iload (pc := 55) dX11_mean_55 rfl ?_
            refine P_icmp_geN (pc := 57) (tgt := 73) dX11_mean_57 (by decide) (by omega) (by omega) (fun h57 => ?_) (fun h57 => ?_)
            · refine P_iconst (pc := 73) (x := nI 0) dX11_mean_73 (by decide) ?_
              refine P_istore (pc := 74) dX11_mean_74 (by decide) rfl ?_
              have hk2 : k = m := by omega
              subst hk2
              exact loop2 (2 ^ k + 1) 0 none I (Nat.lt_succ_of_le (Nat.sub_le _ _)) (Nat.zero_le _) zSc.rf
            · refine P_iload (pc := 60) dX11_mean_60 rfl ?_
              refine P_bipush (pc := 62) (x := nI 10) dX11_mean_62 (by decide) ?_
              refine P_imulN (pc := 64) dX11_mean_64 ?_
              refine P_istore (pc := 65) dX11_mean_65 (by decide) rfl ?_
              refine P_iincN (pc := 67) (c := 1) dX11_mean_67 rfl (by decide) (by decide) rfl ?_
              refine P_goto (pc := 70) (tgt := 53) dX11_mean_70 (by decide) ?_
              exact ih (k + 1) (by omega) (by omega)
        exact loop1 (m + 1) 0 (by omega) (by omega)
      · refine P_iconst (pc := 26) (x := (-1)) dX11_mean_26 (by decide) ?_
        exact P_iret (pc := 27) dX11_mean_27 (⟨by unfold aMean; rw [if_neg (by intro z; simp_all)], rfl, zSc.rf⟩)
