set_option maxRecDepth 20000 in
theorem c_move_58_o {l : Launch} {D : va_G} {tw : Nat} {I : AI} {f t : Nat} (hf : f < 9) (ht : t < 9) : ZP_o l D zm_X5_move 0 (zent 3 [.ref 58, .int (nI f), .int (nI t)]) [] I (zF_o tw) (fun v J G => v = none ∧ G = zF_o tw ∧ J = zMv I 58 f t) := by
  show ZP_o _ _ _ _ [some _, some _, some _] _ _ _ _
  refine P_aload_n_o (pc := 0) dX5_move_0 rfl ?_
  refine P_getr_o (pc := 1) 5 0 dX5_move_1 fl_X5_11 sh_58_o fr_5_0 F_58_0_o ?_
  refine P_iload_n_o (pc := 4) dX5_move_4 rfl ?_
  refine P_aload_n_o (pc := 5) dX5_move_5 rfl ?_
  refine P_getr_o (pc := 6) 5 0 dX5_move_6 fl_X5_11 sh_58_o fr_5_0 F_58_0_o ?_
  refine P_iload_n_o (pc := 9) dX5_move_9 rfl ?_
  refine P_iald_o (pc := 10) (f) (x := I 59 f) dX5_move_10 sh_59_o rfl (by omega) (by decide) (rfl) ?_
  refine P_iast_o (pc := 11) (t) dX5_move_11 sh_59_o rfl (by omega) (by decide) ?_
  refine P_aload_n_o (pc := 12) dX5_move_12 rfl ?_
  refine P_getr_o (pc := 13) 5 1 dX5_move_13 fl_X5_15 sh_58_o fr_5_1 F_58_1_o ?_
  refine P_iload_n_o (pc := 16) dX5_move_16 rfl ?_
  refine P_aload_n_o (pc := 17) dX5_move_17 rfl ?_
  refine P_getr_o (pc := 18) 5 1 dX5_move_18 fl_X5_15 sh_58_o fr_5_1 F_58_1_o ?_
  refine P_iload_n_o (pc := 21) dX5_move_21 rfl ?_
  refine P_iald_o (pc := 22) (f) (x := I 60 f) dX5_move_22 sh_60_o rfl (by omega) (by decide) (rfl) ?_
  refine P_iast_o (pc := 23) (t) dX5_move_23 sh_60_o rfl (by omega) (by decide) ?_
  refine P_aload_n_o (pc := 24) dX5_move_24 rfl ?_
  refine P_getr_o (pc := 25) 5 2 dX5_move_25 fl_X5_18 sh_58_o fr_5_2 F_58_2_o ?_
  refine P_iload_n_o (pc := 28) dX5_move_28 rfl ?_
  refine P_aload_n_o (pc := 29) dX5_move_29 rfl ?_
  refine P_getr_o (pc := 30) 5 2 dX5_move_30 fl_X5_18 sh_58_o fr_5_2 F_58_2_o ?_
  refine P_iload_n_o (pc := 33) dX5_move_33 rfl ?_
  refine P_iald_o (pc := 34) (f) (x := I 61 f) dX5_move_34 sh_61_o rfl (by omega) (by decide) (rfl) ?_
  refine P_iast_o (pc := 35) (t) dX5_move_35 sh_61_o rfl (by omega) (by decide) ?_
  exact P_ret_o (pc := 36) dX5_move_36 (⟨rfl, rfl, rfl⟩)
set_option maxRecDepth 20000 in
theorem c_insert_58_o {l : Launch} {D : va_G} {tw : Nat} {I : AI} {m : Nat} {gc gt gn : Nat → Nat} (hS : CSg m gc gt gn I 58) {k c a n : Nat} (hk : k ≤ m) (hm8 : m ≤ 8) (hc : c < 8) (ha : a < 8) (hn : n < 8) : ZP_o l D zm_X5_insert 0 (zent 6 [.ref 58, .int (nI k), .int (nI c), .int (nI a), .int (nI n)]) [] I (zF_o tw) (fun v J G => v = none ∧ G = zF_o tw ∧ zGf 58 I J ∧ CSg (m + 1) (insN gc k c) (insN gt k a) (insN gn k n) J 58) := by
  have loop : ∀ (d : Nat) (b : Nat) (J : AI), b < d → k ≤ b → b ≤ m → zShU I J 58 b m → ZP_o l D zm_X5_insert 28 [some (.ref 58), some (.int (nI k)), some (.int (nI c)), some (.int (nI a)), some (.int (nI n)), some (.int (nI b))] [] J (zF_o tw) (fun v J G => v = none ∧ G = zF_o tw ∧ zGf 58 I J ∧ CSg (m + 1) (insN gc k c) (insN gt k a) (insN gn k n) J 58) := by
    intro d
    induction d with
    | zero =>
      intro b J hd
      exact absurd hd (by omega)
    | succ d ih =>
      intro b J hd hkb hbm h
      by_cases hbk : b = k
      · have hbk2 : k = b := hbk.symm
        subst hbk2
        refine P_iload_o (pc := 28) dX5_insert_28 rfl ?_
        refine P_iload_n_o (pc := 30) dX5_insert_30 rfl ?_
        refine P_icmp_leT_o (pc := 31) (tgt := 50) dX5_insert_31 (by decide) (Int32.le_refl _) ?_
        refine P_aload_n_o (pc := 50) dX5_insert_50 rfl ?_
        refine P_getr_o (pc := 51) 5 0 dX5_insert_51 fl_X5_11 sh_58_o fr_5_0 F_58_0_o ?_
        refine P_iload_n_o (pc := 54) dX5_insert_54 rfl ?_
        refine P_iload_n_o (pc := 55) dX5_insert_55 rfl ?_
        refine P_iast_o (pc := 56) (k) dX5_insert_56 sh_59_o rfl (by omega) (by decide) ?_
        refine P_aload_n_o (pc := 57) dX5_insert_57 rfl ?_
        refine P_getr_o (pc := 58) 5 1 dX5_insert_58 fl_X5_15 sh_58_o fr_5_1 F_58_1_o ?_
        refine P_iload_n_o (pc := 61) dX5_insert_61 rfl ?_
        refine P_iload_n_o (pc := 62) dX5_insert_62 rfl ?_
        refine P_iast_o (pc := 63) (k) dX5_insert_63 sh_60_o rfl (by omega) (by decide) ?_
        refine P_aload_n_o (pc := 64) dX5_insert_64 rfl ?_
        refine P_getr_o (pc := 65) 5 2 dX5_insert_65 fl_X5_18 sh_58_o fr_5_2 F_58_2_o ?_
        refine P_iload_n_o (pc := 68) dX5_insert_68 rfl ?_
        refine P_iload_o (pc := 69) dX5_insert_69 rfl ?_
        refine P_iast_o (pc := 71) (k) dX5_insert_71 sh_61_o rfl (by omega) (by decide) ?_
        refine P_aload_n_o (pc := 72) dX5_insert_72 rfl ?_
        refine P_dup_o (pc := 73) dX5_insert_73 rfl ?_
        refine P_geti_o (pc := 74) 5 3 (x := nI (m)) dX5_insert_74 fl_X5_21 sh_58_o fi_5_3 ((congrFun (h.1 58 (by decide) (by decide) (by decide)) 3).trans hS.1) ?_
        refine P_iconst_o (pc := 77) (x := nI 1) dX5_insert_77 (by decide) ?_
        refine P_iaddN_o (pc := 78) dX5_insert_78 ?_
        refine P_puti_o (pc := 79) 5 3 dX5_insert_79 fl_X5_21 sh_58_o fp_5_3 rfl rfl ?_
        exact P_ret_o (pc := 82) dX5_insert_82 (⟨rfl, rfl, (((( (show zGf 58 I J from fun a h1 h2 h3 h4 => h.1 a h2 h3 h4).u (by decide)).u (by decide)).u (by decide)).u (by decide)), h.ins hS hk hm8 hc ha hn⟩)
      · obtain ⟨e, rfl⟩ : ∃ e, b = e + 1 := ⟨b - 1, by omega⟩
        refine P_iload_o (pc := 28) dX5_insert_28 rfl ?_
        refine P_iload_n_o (pc := 30) dX5_insert_30 rfl ?_
        refine P_icmp_leF_o (pc := 31) (tgt := 50) dX5_insert_31 (by decide) (by rw [nI_leI (by omega) (by omega)]; omega) ?_
        refine P_aload_n_o (pc := 34) dX5_insert_34 rfl ?_
        refine P_iload_o (pc := 35) dX5_insert_35 rfl ?_
        refine P_iconst_o (pc := 37) (x := nI 1) dX5_insert_37 (by decide) ?_
        refine P_isubN_o (pc := 38) dX5_insert_38 (by omega) ?_
        refine P_iload_o (pc := 39) dX5_insert_39 rfl ?_
        obtain ⟨_, K, _, k1, rfl, rfl, hK⟩ := c_move_58_o (l := l) (D := D) (tw := tw) (I := J) (f := e) (t := e + 1) (by omega) (by omega)
        refine P_callV_o (pc := 41) (S := []) (As := [_, _]) k1 dX5_insert_41 ok_X5_move ml_X5_25 iv_X5_move ⟨by decide, by decide⟩ zret_v rfl ⟨rfl, by decide⟩ sh_58_o ⟨by decide, rfl⟩ (Nat.le_of_ble_eq_true rfl) ?_
        refine P_iinc_o (pc := 44) (y := nI (e)) dX5_insert_44 rfl (pk_m1 (e)) (by decide) rfl ?_
        refine P_goto_o (pc := 47) (tgt := 28) dX5_insert_47 (by decide) ?_
        exact ih e K (by omega) (by omega) (by omega) (hK ▸ h.s (by omega))
  show ZP_o _ _ _ _ [some _, some _, some _, some _, some _, none] _ _ _ _
  refine P_aload_n_o (pc := 0) dX5_insert_0 rfl ?_
  refine P_geti_o (pc := 1) 5 3 (x := nI (m)) dX5_insert_1 fl_X5_21 sh_58_o fi_5_3 (hS.1) ?_
  refine P_bipush_o (pc := 4) (x := nI 9) dX5_insert_4 (by decide) ?_
  refine P_icmp_geF_o (pc := 6) (tgt := 21) dX5_insert_6 (by decide) (by rw [nI_leI (by omega) (by omega)]; omega) ?_
  refine P_iload_n_o (pc := 9) dX5_insert_9 rfl ?_
  refine P_if_ltF_o (pc := 10) (tgt := 21) dX5_insert_10 (by decide) (nI_pos (by omega)) ?_
  refine P_iload_n_o (pc := 13) dX5_insert_13 rfl ?_
  refine P_aload_n_o (pc := 14) dX5_insert_14 rfl ?_
  refine P_geti_o (pc := 15) 5 3 (x := nI (m)) dX5_insert_15 fl_X5_21 sh_58_o fi_5_3 (hS.1) ?_
  refine P_icmp_leT_o (pc := 18) (tgt := 22) dX5_insert_18 (by decide) (by rw [nI_leI (by omega) (by omega)]; omega) ?_
  refine P_aload_n_o (pc := 22) dX5_insert_22 rfl ?_
  refine P_geti_o (pc := 23) 5 3 (x := nI (m)) dX5_insert_23 fl_X5_21 sh_58_o fi_5_3 (hS.1) ?_
  refine P_istore_o (pc := 26) dX5_insert_26 (by decide) rfl ?_
  exact loop (m + 1) m I (by omega) hk (by omega) zShU.rf
set_option maxRecDepth 20000 in
theorem c_append_o {l : Launch} {D : va_G} {tw : Nat} {I : AI} {tx : Nat → Nat} {tn q : Nat} (hX : CTx tx tn I) (ht : tn < 200) (hq : q ≤ 126) : ZP_o l D zm_X7_append 0 (zent 2 [.ref 1, .int (nI q)]) [] I (zF_o tw) (fun v J G => v = none ∧ G = zF_o tw ∧ J = zu (zu I 2 tn (nI q)) 1 1 (nI (tn + 1))) := by
  show ZP_o _ _ _ _ [some _, some _] _ _ _ _
  refine P_aload_n_o (pc := 0) dX7_append_0 rfl ?_
  refine P_geti_o (pc := 1) 7 1 (x := nI (tn)) dX7_append_1 fl_X7_15 sh_1_o fi_7_1 (hX.1) ?_
  refine P_sipush_o (pc := 4) (x := nI 200) dX7_append_4 (by decide) ?_
  refine P_icmp_geF_o (pc := 7) (tgt := 31) dX7_append_7 (by decide) (by rw [nI_leI (by omega) (by omega)]; omega) ?_
  refine P_aload_n_o (pc := 10) dX7_append_10 rfl ?_
  refine P_getr_o (pc := 11) 7 0 dX7_append_11 fl_X7_9 sh_1_o fr_7_0 F_1_0_o ?_
  refine P_aload_n_o (pc := 14) dX7_append_14 rfl ?_
  refine P_geti_o (pc := 15) 7 1 (x := nI (tn)) dX7_append_15 fl_X7_15 sh_1_o fi_7_1 (hX.1) ?_
  refine P_iload_n_o (pc := 18) dX7_append_18 rfl ?_
  refine P_i2c_o (pc := 19) dX7_append_19 ?_
  refine P_cast_o (pc := 20) ((tn)) dX7_append_20 sh_2_o rfl (by omega) (by decide) ?_
  refine P_aload_n_o (pc := 21) dX7_append_21 rfl ?_
  refine P_dup_o (pc := 22) dX7_append_22 rfl ?_
  refine P_geti_o (pc := 23) 7 1 (x := nI (tn)) dX7_append_23 fl_X7_15 sh_1_o fi_7_1 (hX.1) ?_
  refine P_iconst_o (pc := 26) (x := nI 1) dX7_append_26 (by decide) ?_
  refine P_iaddN_o (pc := 27) dX7_append_27 ?_
  refine P_puti_o (pc := 28) 7 1 dX7_append_28 fl_X7_15 sh_1_o fp_7_1 rfl rfl ?_
  refine P_ret_o (pc := 31) dX7_append_31 ?_
  rw [char_b q hq]
  exact ⟨rfl, rfl, rfl⟩
set_option maxRecDepth 20000 in
theorem c_letterAt_o {l : Launch} {D : va_G} {tw : Nat} {I : AI} {tx : Nat → Nat} {tn p : Nat} (hX : CTx tx tn I) (hp : p < 2 ^ 31) : ZP_o l D zm_X7_letterAt 0 (zent 2 [.ref 1, .int (nI p)]) [] I (zF_o tw) (fun v J G => v = some (zo (-4) (zCh tx tn p)) ∧ I = J ∧ G = zF_o tw) := by
  have ht := hX.2.1
  show ZP_o _ _ _ _ [some _, some _] _ _ _ _
  refine P_iload_n_o (pc := 0) dX7_letterAt_0 rfl ?_
  refine P_if_ltF_o (pc := 1) (tgt := 21) dX7_letterAt_1 (by decide) (nI_pos (by omega)) ?_
  refine P_iload_n_o (pc := 4) dX7_letterAt_4 rfl ?_
  refine P_aload_n_o (pc := 5) dX7_letterAt_5 rfl ?_
  refine P_geti_o (pc := 6) 7 1 (x := nI (tn)) dX7_letterAt_6 fl_X7_15 sh_1_o fi_7_1 (hX.1) ?_
  refine P_icmp_geN_o (pc := 9) (tgt := 21) dX7_letterAt_9 (by decide) (by omega) (by omega) (fun h9 => ?_) (fun h9 => ?_)
  · refine P_bipush_o (pc := 21) (x := (-4)) dX7_letterAt_21 (by decide) ?_
    exact P_iret_o (pc := 23) dX7_letterAt_23 (⟨by unfold zCh; rw [if_neg (by omega)]; rfl, rfl, rfl⟩)
  · refine P_aload_n_o (pc := 12) dX7_letterAt_12 rfl ?_
    refine P_getr_o (pc := 13) 7 0 dX7_letterAt_13 fl_X7_9 sh_1_o fr_7_0 F_1_0_o ?_
    refine P_iload_n_o (pc := 16) dX7_letterAt_16 rfl ?_
    refine P_cald_o (pc := 17) (p) (x := nI (tx p)) dX7_letterAt_17 sh_2_o rfl (by omega) (by decide) ((hX.2.2 _ (by omega)).1) ?_
    refine P_goto_o (pc := 18) (tgt := 23) dX7_letterAt_18 (by decide) ?_
    exact P_iret_o (pc := 23) dX7_letterAt_23 (⟨by unfold zCh; rw [if_pos (by omega)]; rfl, rfl, rfl⟩)
set_option maxRecDepth 20000 in
theorem c_fill_o {l : Launch} {D : va_G} {tw : Nat} {I : AI} {a n : Nat} {x : Int32} (hs : SH_o[a]? = some (15, n)) (hn : n < 2 ^ 31) : ZP_o l D zm_J7_fill_53178 0 (zent 4 [.ref a, .int x]) [] I (zF_o tw) (fun v J G => v = none ∧ G = zF_o tw ∧ (∀ b, b ≠ a → J b = I b) ∧ ∀ j, j < n → J a j = x) := by
  have loop : ∀ (d : Nat) (k : Nat) (J : AI), n - k < d → k ≤ n → (∀ b, b ≠ a → J b = I b) → (∀ j, j < k → J a j = x) → ZP_o l D zm_J7_fill_53178 5 [some (.ref a), some (.int x), some (.int (nI k)), some (.int (nI n))] [] J (zF_o tw) (fun v J G => v = none ∧ G = zF_o tw ∧ (∀ b, b ≠ a → J b = I b) ∧ ∀ j, j < n → J a j = x) := by
    intro d
    induction d with
    | zero =>
      intro k J hd
      exact absurd hd (by omega)
    | succ d ih =>
      intro k J hd hk hF hx
      refine P_iload_n_o (pc := 5) dJ7_fill_53178_5 rfl ?_
      refine P_iload_n_o (pc := 6) dJ7_fill_53178_6 rfl ?_
      refine P_icmp_geN_o (pc := 7) (tgt := 20) dJ7_fill_53178_7 (by decide) (by omega) (by omega) (fun h7 => ?_) (fun h7 => ?_)
      · exact P_ret_o (pc := 20) dJ7_fill_53178_20 (⟨rfl, rfl, hF, fun j hj => hx j (by omega)⟩)
      · refine P_aload_n_o (pc := 10) dJ7_fill_53178_10 rfl ?_
        refine P_iload_n_o (pc := 11) dJ7_fill_53178_11 rfl ?_
        refine P_iload_n_o (pc := 12) dJ7_fill_53178_12 rfl ?_
        refine P_iast_o (pc := 13) (k) dJ7_fill_53178_13 hs rfl (by omega) hn ?_
        refine P_iincN_o (pc := 14) (c := 1) dJ7_fill_53178_14 rfl (by decide) (by decide) rfl ?_
        refine P_goto_o (pc := 17) (tgt := 5) dJ7_fill_53178_17 (by decide) ?_
        exact ih (k + 1) _ (by omega) (by omega) (fun b hb => (zu_o _ _ hb).trans (hF b hb)) (fun j hj => by
          by_cases e : j = k
          · rw [e]; exact zu_s _ _ _ _
          · rw [zu_n _ _ e]; exact hx j (by omega))
  show ZP_o _ _ _ _ [some _, some _, none, none] _ _ _ _
  refine P_iconst_o (pc := 0) (x := nI 0) dJ7_fill_53178_0 (by decide) ?_
  refine P_istore_n_o (pc := 1) dJ7_fill_53178_1 (by decide) rfl ?_
  refine P_aload_n_o (pc := 2) dJ7_fill_53178_2 rfl ?_
  refine P_alen_o (pc := 3) (x := nI n) dJ7_fill_53178_3 hs (by decide) (by decide) rfl ?_
  refine P_istore_n_o (pc := 4) dJ7_fill_53178_4 (by decide) rfl ?_
  exact loop (n + 1) 0 I (by omega) (by omega) (fun _ _ => rfl) (fun j hj => by omega)
set_option maxRecDepth 20000 in
theorem c_shortenBy_36_49_o {l : Launch} {D : va_G} {tw : Nat} {I : AI} {nc m : Nat} {nr : Nat → Nat} (hnc : I 37 0 = nI nc) (hnc8 : nc ≤ 8) (hN : zNg nc nr) (hm : m < nc) (hR0 : zRw 50 (zD nr m) I) : ZP_o l D zm_X6_shortenBy 0 (zent 7 [.ref 37, .ref 49, .int (nI m)]) [] I (zF_o tw) (fun v J G => v = none ∧ G = zF_o tw ∧ zRf 50 I J ∧ zRw 50 (zD nr (m + 1)) J) := by
  have loop : ∀ (d : Nat) (a : Nat) (v4 v5 v6 : Option Value) (J : AI), nc - a < d → a ≤ nc → zRf 50 I J → zRw 50 (zMx nr m a 0) J → ZP_o l D zm_X6_shortenBy 2 [some (.ref 37), some (.ref 49), some (.int (nI m)), some (.int (nI a)), v4, v5, v6] [] J (zF_o tw) (fun v J G => v = none ∧ G = zF_o tw ∧ zRf 50 I J ∧ zRw 50 (zD nr (m + 1)) J) := by
    intro d
    induction d with
    | zero =>
      intro a v4 v5 v6 J hd
      exact absurd hd (by omega)
    | succ d ih =>
      intro a v4 v5 v6 J hd ha hF hR
      refine P_iload_n_o (pc := 2) dX6_shortenBy_2 rfl ?_
      refine P_aload_n_o (pc := 3) dX6_shortenBy_3 rfl ?_
      refine P_geti_o (pc := 4) 6 0 (x := nI (nc)) dX6_shortenBy_4 fl_X6_26 sh_37_o fi_6_0 ((congrFun (hF 37 (by decide)) 0).trans hnc) ?_
      refine P_icmp_geN_o (pc := 7) (tgt := 99) dX6_shortenBy_7 (by decide) (by omega) (by omega) (fun h7 => ?_) (fun h7 => ?_)
      · exact P_ret_o (pc := 99) dX6_shortenBy_99 (⟨rfl, rfl, hF, hR.c (fun x y hx hy => by
  unfold zMx
  by_cases e : x < a
  · rw [if_pos (by omega)]
  · rw [if_neg (by omega)]; exact zD_keep hN hx hy (by omega) (Or.inl (by omega)))⟩)
      · refine P_aload_n_o (pc := 10) dX6_shortenBy_10 rfl ?_
        refine P_iload_n_o (pc := 11) dX6_shortenBy_11 rfl ?_
        refine P_aald_o (pc := 12) (a) dX6_shortenBy_12 sh_49_o (by decide) rfl (by omega) (by decide) (Fr_49_o _ (by omega)) ?_
        refine P_iload_n_o (pc := 13) dX6_shortenBy_13 rfl ?_
        refine P_iald_o (pc := 14) (m) (x := zds (zMx nr m a 0 a m)) dX6_shortenBy_14 (shr_50_o _ (by omega)) rfl (by omega) (by decide) (hR _ _ (by omega) (by omega)) ?_
        rw [zMx_r]
        have hend : ∀ (b : Nat) (v4 v6 : Option Value) (J : AI), b ≤ 8 → zRf 50 I J → zRw 50 (zMx nr m a b) J → (∀ q, b ≤ q → q < 8 → zD nr (m + 1) a q = zD nr m a q) → ZP_o l D zm_X6_shortenBy 93 [some (.ref 37), some (.ref 49), some (.int (nI m)), some (.int (nI a)), v4, some (.int (nI b)), v6] [] J (zF_o tw) (fun v J G => v = none ∧ G = zF_o tw ∧ zRf 50 I J ∧ zRw 50 (zD nr (m + 1)) J) := by
          intro b v4 v6 J hb hF hR hq
          refine P_iincN_o (pc := 93) (c := 1) dX6_shortenBy_93 rfl (by decide) (by decide) rfl ?_
          refine P_goto_o (pc := 96) (tgt := 2) dX6_shortenBy_96 (by decide) ?_
          exact ih (a + 1) _ _ _ J (by omega) (by omega) hF (hR.c (fun x y hx hy => zMx_a hN (by omega) hx hy hq))
        by_cases h1 : zD nr m a m < 10000
        · rw [zds_lt h1]
          refine P_istore_o (pc := 15) dX6_shortenBy_15 (by decide) rfl ?_
          refine P_iconst_o (pc := 17) (x := nI 0) dX6_shortenBy_17 (by decide) ?_
          refine P_istore_o (pc := 18) dX6_shortenBy_18 (by decide) rfl ?_
          have loopB : ∀ (d2 : Nat) (b : Nat) (v6 : Option Value) (J : AI), nc - b < d2 → b ≤ nc → zRf 50 I J → zRw 50 (zMx nr m a b) J → ZP_o l D zm_X6_shortenBy 20 [some (.ref 37), some (.ref 49), some (.int (nI m)), some (.int (nI a)), some (.int (nI (zD nr m a m))), some (.int (nI b)), v6] [] J (zF_o tw) (fun v J G => v = none ∧ G = zF_o tw ∧ zRf 50 I J ∧ zRw 50 (zD nr (m + 1)) J) := by
            intro d2
            induction d2 with
            | zero =>
              intro b v6 J hd2
              exact absurd hd2 (by omega)
            | succ d2 ihb =>
              intro b v6 J hd2 hb hF hR
              refine P_iload_o (pc := 20) dX6_shortenBy_20 rfl ?_
              refine P_aload_n_o (pc := 22) dX6_shortenBy_22 rfl ?_
              refine P_geti_o (pc := 23) 6 0 (x := nI (nc)) dX6_shortenBy_23 fl_X6_26 sh_37_o fi_6_0 ((congrFun (hF 37 (by decide)) 0).trans hnc) ?_
              refine P_icmp_geN_o (pc := 26) (tgt := 93) dX6_shortenBy_26 (by decide) (by omega) (by omega) (fun h26 => ?_) (fun h26 => ?_)
              · exact hend b _ _ J (by omega) hF hR (fun q h8 h9 => zD_keep hN (by omega) h9 (by omega) (Or.inr (by omega)))
              · refine P_iload_o (pc := 29) dX6_shortenBy_29 rfl ?_
                refine P_bipush_o (pc := 31) (x := (-4)) dX6_shortenBy_31 (by decide) ?_
                refine P_icmp_eqF_o (pc := 33) (tgt := 93) dX6_shortenBy_33 (by decide) (zne4 (by omega)) ?_
                refine P_aload_n_o (pc := 36) dX6_shortenBy_36 rfl ?_
                refine P_iload_n_o (pc := 37) dX6_shortenBy_37 rfl ?_
                refine P_aald_o (pc := 38) (m) dX6_shortenBy_38 sh_49_o (by decide) rfl (by omega) (by decide) (Fr_49_o _ (by omega)) ?_
                refine P_iload_o (pc := 39) dX6_shortenBy_39 rfl ?_
                refine P_iald_o (pc := 41) (b) (x := zds (zMx nr m a b m b)) dX6_shortenBy_41 (shr_50_o _ (by omega)) rfl (by omega) (by decide) (hR _ _ (by omega) (by omega)) ?_
                rw [zMx_l]
                by_cases h2 : zD nr m m b < 10000
                · rw [zds_lt h2]
                  have hv := zD_via hN.2.1 (m := m) (a := a) (b := b) (by omega) h1 h2
                  have hle := zD_le hN.1 (a := a) (b := b) m
                  by_cases h3 : zD nr m a b < 10000
                  · refine P_istore_o (pc := 42) dX6_shortenBy_42 (by decide) rfl ?_
                    refine P_iload_o (pc := 44) dX6_shortenBy_44 rfl ?_
                    refine P_bipush_o (pc := 46) (x := (-4)) dX6_shortenBy_46 (by decide) ?_
                    refine P_icmp_eqF_o (pc := 48) (tgt := 87) dX6_shortenBy_48 (by decide) (zne4 (by omega)) ?_
                    refine P_aload_n_o (pc := 51) dX6_shortenBy_51 rfl ?_
                    refine P_iload_n_o (pc := 52) dX6_shortenBy_52 rfl ?_
                    refine P_aald_o (pc := 53) (a) dX6_shortenBy_53 sh_49_o (by decide) rfl (by omega) (by decide) (Fr_49_o _ (by omega)) ?_
                    refine P_iload_o (pc := 54) dX6_shortenBy_54 rfl ?_
                    refine P_iald_o (pc := 56) (b) (x := nI (zD nr m a b)) dX6_shortenBy_56 (shr_50_o _ (by omega)) rfl (by omega) (by decide) ((hR _ _ (by omega) (by omega)).trans (by rw [zMx_h]; exact zds_lt h3)) ?_
                    refine P_bipush_o (pc := 57) (x := (-4)) dX6_shortenBy_57 (by decide) ?_
                    refine P_icmp_eqF_o (pc := 59) (tgt := 76) dX6_shortenBy_59 (by decide) (zne4 (by omega)) ?_
                    refine P_iload_o (pc := 62) dX6_shortenBy_62 rfl ?_
                    refine P_iload_o (pc := 64) dX6_shortenBy_64 rfl ?_
                    refine P_iaddN_o (pc := 66) dX6_shortenBy_66 ?_
                    refine P_aload_n_o (pc := 67) dX6_shortenBy_67 rfl ?_
                    refine P_iload_n_o (pc := 68) dX6_shortenBy_68 rfl ?_
                    refine P_aald_o (pc := 69) (a) dX6_shortenBy_69 sh_49_o (by decide) rfl (by omega) (by decide) (Fr_49_o _ (by omega)) ?_
                    refine P_iload_o (pc := 70) dX6_shortenBy_70 rfl ?_
                    refine P_iald_o (pc := 72) (b) (x := nI (zD nr m a b)) dX6_shortenBy_72 (shr_50_o _ (by omega)) rfl (by omega) (by decide) ((hR _ _ (by omega) (by omega)).trans (by rw [zMx_h]; exact zds_lt h3)) ?_
                    refine P_icmp_geN_o (pc := 73) (tgt := 87) dX6_shortenBy_73 (by decide) (by omega) (by omega) (fun h73 => ?_) (fun h73 => ?_)
                    · refine P_iincN_o (pc := 87) (c := 1) dX6_shortenBy_87 rfl (by decide) (by decide) rfl ?_
                      refine P_goto_o (pc := 90) (tgt := 20) dX6_shortenBy_90 (by decide) ?_
                      exact ihb (b + 1) _ _ (by omega) (by omega) hF (hR.c (fun x y hx hy => by
                        by_cases e : x = a ∧ y = b
                        · rw [e.1, e.2, zMx_n, zMx_h]; rw [zD_s]; exact Nat.min_eq_left (by omega)
                        · exact zMx_b e))
                    · refine P_aload_n_o (pc := 76) dX6_shortenBy_76 rfl ?_
                      refine P_iload_n_o (pc := 77) dX6_shortenBy_77 rfl ?_
                      refine P_aald_o (pc := 78) (a) dX6_shortenBy_78 sh_49_o (by decide) rfl (by omega) (by decide) (Fr_49_o _ (by omega)) ?_
                      refine P_iload_o (pc := 79) dX6_shortenBy_79 rfl ?_
                      refine P_iload_o (pc := 81) dX6_shortenBy_81 rfl ?_
                      refine P_iload_o (pc := 83) dX6_shortenBy_83 rfl ?_
                      refine P_iaddN_o (pc := 85) dX6_shortenBy_85 ?_
                      refine P_iast_o (pc := 86) (b) dX6_shortenBy_86 (shr_50_o _ (by omega)) rfl (by omega) (by decide) ?_
                      refine P_iincN_o (pc := 87) (c := 1) dX6_shortenBy_87 rfl (by decide) (by decide) rfl ?_
                      refine P_goto_o (pc := 90) (tgt := 20) dX6_shortenBy_90 (by decide) ?_
                      exact ihb (b + 1) _ _ (by omega) (by omega) (hF.u (by omega)) (hR.u (by omega) (by omega) (by rw [zMx_n, zds_lt (by rw [zD_s]; omega)]; exact congrArg nI (by rw [zD_s, Nat.min_eq_right (by omega)])) (fun x y hx hy e => zMx_b e))
                  · refine P_istore_o (pc := 42) dX6_shortenBy_42 (by decide) rfl ?_
                    refine P_iload_o (pc := 44) dX6_shortenBy_44 rfl ?_
                    refine P_bipush_o (pc := 46) (x := (-4)) dX6_shortenBy_46 (by decide) ?_
                    refine P_icmp_eqF_o (pc := 48) (tgt := 87) dX6_shortenBy_48 (by decide) (zne4 (by omega)) ?_
                    refine P_aload_n_o (pc := 51) dX6_shortenBy_51 rfl ?_
                    refine P_iload_n_o (pc := 52) dX6_shortenBy_52 rfl ?_
                    refine P_aald_o (pc := 53) (a) dX6_shortenBy_53 sh_49_o (by decide) rfl (by omega) (by decide) (Fr_49_o _ (by omega)) ?_
                    refine P_iload_o (pc := 54) dX6_shortenBy_54 rfl ?_
                    refine P_iald_o (pc := 56) (b) (x := (-4)) dX6_shortenBy_56 (shr_50_o _ (by omega)) rfl (by omega) (by decide) ((hR _ _ (by omega) (by omega)).trans (by rw [zMx_h]; exact zds_ge h3)) ?_
                    refine P_bipush_o (pc := 57) (x := (-4)) dX6_shortenBy_57 (by decide) ?_
                    refine P_icmp_eqT_o (pc := 59) (tgt := 76) dX6_shortenBy_59 (by decide) rfl ?_
                    refine P_aload_n_o (pc := 76) dX6_shortenBy_76 rfl ?_
                    refine P_iload_n_o (pc := 77) dX6_shortenBy_77 rfl ?_
                    refine P_aald_o (pc := 78) (a) dX6_shortenBy_78 sh_49_o (by decide) rfl (by omega) (by decide) (Fr_49_o _ (by omega)) ?_
                    refine P_iload_o (pc := 79) dX6_shortenBy_79 rfl ?_
                    refine P_iload_o (pc := 81) dX6_shortenBy_81 rfl ?_
                    refine P_iload_o (pc := 83) dX6_shortenBy_83 rfl ?_
                    refine P_iaddN_o (pc := 85) dX6_shortenBy_85 ?_
                    refine P_iast_o (pc := 86) (b) dX6_shortenBy_86 (shr_50_o _ (by omega)) rfl (by omega) (by decide) ?_
                    refine P_iincN_o (pc := 87) (c := 1) dX6_shortenBy_87 rfl (by decide) (by decide) rfl ?_
                    refine P_goto_o (pc := 90) (tgt := 20) dX6_shortenBy_90 (by decide) ?_
                    exact ihb (b + 1) _ _ (by omega) (by omega) (hF.u (by omega)) (hR.u (by omega) (by omega) (by rw [zMx_n, zds_lt (by rw [zD_s]; omega)]; exact congrArg nI (by rw [zD_s, Nat.min_eq_right (by omega)])) (fun x y hx hy e => zMx_b e))
                · rw [zds_ge h2]
                  refine P_istore_o (pc := 42) dX6_shortenBy_42 (by decide) rfl ?_
                  refine P_iload_o (pc := 44) dX6_shortenBy_44 rfl ?_
                  refine P_bipush_o (pc := 46) (x := (-4)) dX6_shortenBy_46 (by decide) ?_
                  refine P_icmp_eqT_o (pc := 48) (tgt := 87) dX6_shortenBy_48 (by decide) (by decide) ?_
                  refine P_iincN_o (pc := 87) (c := 1) dX6_shortenBy_87 rfl (by decide) (by decide) rfl ?_
                  refine P_goto_o (pc := 90) (tgt := 20) dX6_shortenBy_90 (by decide) ?_
                  exact ihb (b + 1) _ _ (by omega) (by omega) hF (hR.c (fun x y hx hy => by
                    by_cases e : x = a ∧ y = b
                    · rw [e.1, e.2, zMx_n, zMx_h]; exact zD_skip hN.1 (Or.inr h2)
                    · exact zMx_b e))
          exact loopB (nc + 1) 0 _ J (by omega) (by omega) hF hR
        · rw [zds_ge h1]
          refine P_istore_o (pc := 15) dX6_shortenBy_15 (by decide) rfl ?_
          refine P_iconst_o (pc := 17) (x := nI 0) dX6_shortenBy_17 (by decide) ?_
          refine P_istore_o (pc := 18) dX6_shortenBy_18 (by decide) rfl ?_
          refine P_iload_o (pc := 20) dX6_shortenBy_20 rfl ?_
          refine P_aload_n_o (pc := 22) dX6_shortenBy_22 rfl ?_
          refine P_geti_o (pc := 23) 6 0 (x := nI (nc)) dX6_shortenBy_23 fl_X6_26 sh_37_o fi_6_0 ((congrFun (hF 37 (by decide)) 0).trans hnc) ?_
          refine P_icmp_geN_o (pc := 26) (tgt := 93) dX6_shortenBy_26 (by decide) (by omega) (by omega) (fun h26 => ?_) (fun h26 => ?_)
          · exact hend 0 _ _ J (by omega) hF hR (fun q h8 h9 => zD_skip hN.1 (Or.inl h1))
          · refine P_iload_o (pc := 29) dX6_shortenBy_29 rfl ?_
            refine P_bipush_o (pc := 31) (x := (-4)) dX6_shortenBy_31 (by decide) ?_
            refine P_icmp_eqT_o (pc := 33) (tgt := 93) dX6_shortenBy_33 (by decide) (by decide) ?_
            exact hend 0 _ _ J (by omega) hF hR (fun q h8 h9 => zD_skip hN.1 (Or.inl h1))
  show ZP_o _ _ _ _ [some _, some _, some _, none, none, none, none] _ _ _ _
  refine P_iconst_o (pc := 0) (x := nI 0) dX6_shortenBy_0 (by decide) ?_
  refine P_istore_n_o (pc := 1) dX6_shortenBy_1 (by decide) rfl ?_
  exact loop (nc + 1) 0 none none none I (by omega) (by omega) zRf.rf (hR0.c (fun x y _ _ => by unfold zMx; rw [if_neg (by omega)]))
set_option maxRecDepth 20000 in
theorem c_measure_36_49_o {l : Launch} {D : va_G} {tw : Nat} {I : AI} {nc m : Nat} {sa sb sl : Nat → Nat} (hC : CSr nc m sa sb sl I 36) {w : Option Nat} (hwb : ∀ q, w = some q → q < 2 ^ 31) : ZP_o l D zm_X6_measure 0 (zent 6 [.ref 37, .ref 49, .int (zo (-1) w)]) [] I (zF_o tw) (fun v J G => v = none ∧ G = zF_o tw ∧ zRf 50 I J ∧ zRw 50 (fun a b => zFar (zNr sa sb sl w m) (8 * a + b)) J) := by
  have hnc8 := hC.2.1
  have hm12 := hC.2.2.2.1
  have loop3 : ∀ (d : Nat) (v : Nat) (v4 v5 : Option Value) (J : AI), nc - v < d → v ≤ nc → zRf 50 I J → zRw 50 (zD (zNr sa sb sl w m) v) J → ZP_o l D zm_X6_measure 101 [some (.ref 37), some (.ref 49), some (.int (zo (-1) w)), some (.int (nI v)), v4, v5] [] J (zF_o tw) (fun v J G => v = none ∧ G = zF_o tw ∧ zRf 50 I J ∧ zRw 50 (fun a b => zFar (zNr sa sb sl w m) (8 * a + b)) J) := by
    intro d
    induction d with
    | zero =>
      intro v v4 v5 J hd
      exact absurd hd (by omega)
    | succ d ih =>
      intro v v4 v5 J hd hv hF hR
      refine P_iload_n_o (pc := 101) dX6_measure_101 rfl ?_
      refine P_aload_n_o (pc := 102) dX6_measure_102 rfl ?_
      refine P_geti_o (pc := 103) 6 0 (x := nI (nc)) dX6_measure_103 fl_X6_26 sh_37_o fi_6_0 ((congrFun (hF 37 (by omega)) 0).trans hC.1) ?_
      refine P_icmp_geN_o (pc := 106) (tgt := 121) dX6_measure_106 (by decide) (by omega) (by omega) (fun h106 => ?_) (fun h106 => ?_)
      · refine P_ret_o (pc := 121) dX6_measure_121 ?_
        have hv2 : v = nc := by omega
        subst hv2
        exact ⟨rfl, rfl, hF, hR.c (fun a b ha hb => zFar_nc (hC.ng (Nat.le_refl _)) hC.2.1 ha hb)⟩
      · refine P_aload_n_o (pc := 109) dX6_measure_109 rfl ?_
        refine P_aload_n_o (pc := 110) dX6_measure_110 rfl ?_
        refine P_iload_n_o (pc := 111) dX6_measure_111 rfl ?_
        obtain ⟨_, K, _, k1, rfl, rfl, hK1, hK2⟩ := c_shortenBy_36_49_o (l := l) (D := D) (tw := tw) (I := J) (nc := nc) (m := v) (nr := zNr sa sb sl w m) ((congrFun (hF 37 (by omega)) 0).trans hC.1) hC.2.1 (hC.ng (Nat.le_refl _)) (by omega) hR
        refine P_callV_o (pc := 112) (S := []) (As := [_, _]) k1 dX6_measure_112 ok_X6_shortenBy ml_X6_39 iv_X6_shortenBy ⟨by decide, by decide⟩ zret_v rfl ⟨rfl, by decide⟩ sh_37_o ⟨by decide, rfl⟩ (Nat.le_of_ble_eq_true rfl) ?_
        refine P_iincN_o (pc := 115) (c := 1) dX6_measure_115 rfl (by decide) (by decide) rfl ?_
        refine P_goto_o (pc := 118) (tgt := 101) dX6_measure_118 (by decide) ?_
        exact ih (v + 1) _ _ K (by omega) (by omega) (hF.trans hK1) hK2
  have loop2 : ∀ (d : Nat) (k : Nat) (v4 v5 : Option Value) (J : AI), m - k < d → k ≤ m → zRf 50 I J → zRw 50 (zSm sa sb sl w k) J → ZP_o l D zm_X6_measure 30 [some (.ref 37), some (.ref 49), some (.int (zo (-1) w)), some (.int (nI k)), v4, v5] [] J (zF_o tw) (fun v J G => v = none ∧ G = zF_o tw ∧ zRf 50 I J ∧ zRw 50 (fun a b => zFar (zNr sa sb sl w m) (8 * a + b)) J) := by
    intro d
    induction d with
    | zero =>
      intro k v4 v5 J hd
      exact absurd hd (by omega)
    | succ d ih =>
      intro k v4 v5 J hd hk hF hR
      refine P_iload_n_o (pc := 30) dX6_measure_30 rfl ?_
      refine P_aload_n_o (pc := 31) dX6_measure_31 rfl ?_
      refine P_geti_o (pc := 32) 6 1 (x := nI (m)) dX6_measure_32 fl_X6_30 sh_37_o fi_6_1 ((congrFun (hF 37 (by omega)) 1).trans hC.2.2.1) ?_
      refine P_icmp_geN_o (pc := 35) (tgt := 99) dX6_measure_35 (by decide) (by omega) (by omega) (fun h35 => ?_) (fun h35 => ?_)
      · refine P_iconst_o (pc := 99) (x := nI 0) dX6_measure_99 (by decide) ?_
        refine P_istore_n_o (pc := 100) dX6_measure_100 (by decide) rfl ?_
        have hk2 : k = m := by omega
        subst hk2
        exact loop3 (nc + 1) 0 _ _ J (by omega) (by omega) hF (hR.c (fun a b _ _ => rfl))
      · have hs := (hC.2.2.2.2 k (by omega)).2
        refine P_aload_n_o (pc := 38) dX6_measure_38 rfl ?_
        refine P_getr_o (pc := 39) 6 2 dX6_measure_39 fl_X6_9 sh_37_o fr_6_2 F_37_2_o ?_
        refine P_iload_n_o (pc := 42) dX6_measure_42 rfl ?_
        refine P_iald_o (pc := 43) (k) (x := nI (sa k)) dX6_measure_43 sh_38_o rfl (by omega) (by decide) ((congrFun (hF 38 (by omega)) _).trans (hC.2.2.2.2 k (by omega)).1.1) ?_
        refine P_istore_o (pc := 44) dX6_measure_44 (by decide) rfl ?_
        refine P_aload_n_o (pc := 46) dX6_measure_46 rfl ?_
        refine P_getr_o (pc := 47) 6 3 dX6_measure_47 fl_X6_15 sh_37_o fr_6_3 F_37_3_o ?_
        refine P_iload_n_o (pc := 50) dX6_measure_50 rfl ?_
        refine P_iald_o (pc := 51) (k) (x := nI (sb k)) dX6_measure_51 sh_39_o rfl (by omega) (by decide) ((congrFun (hF 39 (by omega)) _).trans (hC.2.2.2.2 k (by omega)).1.2.1) ?_
        refine P_istore_o (pc := 52) dX6_measure_52 (by decide) rfl ?_
        refine P_iload_n_o (pc := 54) dX6_measure_54 rfl ?_
        refine P_iload_n_o (pc := 55) dX6_measure_55 rfl ?_
        refine P_icmp_eq_o (pc := 56) (tgt := 93) dX6_measure_56 (by decide) (fun h56 => ?_) (fun h56 => ?_)
        · refine P_iincN_o (pc := 93) (c := 1) dX6_measure_93 rfl (by decide) (by decide) rfl ?_
          refine P_goto_o (pc := 96) (tgt := 30) dX6_measure_96 (by decide) ?_
          exact ih (k + 1) _ _ J (by omega) (by omega) hF (hR.c (fun a b _ _ => zSm_w ((zo_eq1 (by omega) hwb).mp h56)))
        · refine P_aload_n_o (pc := 59) dX6_measure_59 rfl ?_
          refine P_iload_o (pc := 60) dX6_measure_60 rfl ?_
          refine P_aald_o (pc := 62) ((sa k)) dX6_measure_62 sh_49_o (by decide) rfl (by omega) (by decide) (Fr_49_o _ (by omega)) ?_
          refine P_iload_o (pc := 63) dX6_measure_63 rfl ?_
          refine P_aload_n_o (pc := 65) dX6_measure_65 rfl ?_
          refine P_getr_o (pc := 66) 6 4 dX6_measure_66 fl_X6_20 sh_37_o fr_6_4 F_37_4_o ?_
          refine P_iload_o (pc := 69) dX6_measure_69 rfl ?_
          refine P_aald_o (pc := 71) ((sa k)) dX6_measure_71 sh_40_o (by decide) rfl (by omega) (by decide) (Fr_40_o _ (by omega)) ?_
          refine P_iload_o (pc := 72) dX6_measure_72 rfl ?_
          refine P_iald_o (pc := 74) ((sb k)) (x := nI (sl k)) dX6_measure_74 (shr_41_o _ (by omega)) rfl (by omega) (by decide) ((congrFun ((by first | exact hF | exact hF.u (by omega) : zRf 50 I _) _ (by omega)) _).trans (hC.2.2.2.2 k (by omega)).1.2.2) ?_
          refine P_iast_o (pc := 75) ((sb k)) dX6_measure_75 (shr_50_o _ (by omega)) rfl (by omega) (by decide) ?_
          refine P_aload_n_o (pc := 76) dX6_measure_76 rfl ?_
          refine P_iload_o (pc := 77) dX6_measure_77 rfl ?_
          refine P_aald_o (pc := 79) ((sb k)) dX6_measure_79 sh_49_o (by decide) rfl (by omega) (by decide) (Fr_49_o _ (by omega)) ?_
          refine P_iload_o (pc := 80) dX6_measure_80 rfl ?_
          refine P_aload_n_o (pc := 82) dX6_measure_82 rfl ?_
          refine P_getr_o (pc := 83) 6 4 dX6_measure_83 fl_X6_20 sh_37_o fr_6_4 F_37_4_o ?_
          refine P_iload_o (pc := 86) dX6_measure_86 rfl ?_
          refine P_aald_o (pc := 88) ((sa k)) dX6_measure_88 sh_40_o (by decide) rfl (by omega) (by decide) (Fr_40_o _ (by omega)) ?_
          refine P_iload_o (pc := 89) dX6_measure_89 rfl ?_
          refine P_iald_o (pc := 91) ((sb k)) (x := nI (sl k)) dX6_measure_91 (shr_41_o _ (by omega)) rfl (by omega) (by decide) ((congrFun ((by first | exact hF | exact hF.u (by omega) : zRf 50 I _) _ (by omega)) _).trans (hC.2.2.2.2 k (by omega)).1.2.2) ?_
          refine P_iast_o (pc := 92) ((sa k)) dX6_measure_92 (shr_50_o _ (by omega)) rfl (by omega) (by decide) ?_
          refine P_iincN_o (pc := 93) (c := 1) dX6_measure_93 rfl (by decide) (by decide) rfl ?_
          refine P_goto_o (pc := 96) (tgt := 30) dX6_measure_96 (by decide) ?_
          exact ih (k + 1) _ _ _ (by omega) (by omega) ((hF.u (by omega)).u (by omega)) ((hR.u (by omega) (by omega) (by rw [zSh_1 hs.1, zds_lt (by omega)]) (fun a b ha hb e => zSh_o ha hb (by omega) (by omega) e)).u (by omega) (by omega) (by rw [zSm_1 (fun z => h56 ((zo_eq1 (by omega) hwb).mpr z)) hs.1, zds_lt (by omega)]) (fun a b ha hb e => zSm_o (fun z => h56 ((zo_eq1 (by omega) hwb).mpr z)) ha hb (by omega) (by omega) e))
  have loop1 : ∀ (d : Nat) (c : Nat) (J : AI), 8 - c < d → c ≤ 8 → zRf 50 I J → (∀ a b, a < c → b < 8 → J (50 + a) b = zds (zSm sa sb sl w 0 a b)) → ZP_o l D zm_X6_measure 2 [some (.ref 37), some (.ref 49), some (.int (zo (-1) w)), some (.int (nI c)), none, none] [] J (zF_o tw) (fun v J G => v = none ∧ G = zF_o tw ∧ zRf 50 I J ∧ zRw 50 (fun a b => zFar (zNr sa sb sl w m) (8 * a + b)) J) := by
    intro d
    induction d with
    | zero =>
      intro c J hd
      exact absurd hd (by omega)
    | succ d ih =>
      intro c J hd hc hF hR
      refine P_iload_n_o (pc := 2) dX6_measure_2 rfl ?_
      refine P_bipush_o (pc := 3) (x := nI 8) dX6_measure_3 (by decide) ?_
      refine P_icmp_geN_o (pc := 5) (tgt := 28) dX6_measure_5 (by decide) (by omega) (by omega) (fun h5 => ?_) (fun h5 => ?_)
      · refine P_iconst_o (pc := 28) (x := nI 0) dX6_measure_28 (by decide) ?_
        refine P_istore_n_o (pc := 29) dX6_measure_29 (by decide) rfl ?_
        exact loop2 (m + 1) 0 none none J (by omega) (by omega) hF (fun a b ha hb => hR a b (by omega) hb)
      · refine P_aload_n_o (pc := 8) dX6_measure_8 rfl ?_
        refine P_iload_n_o (pc := 9) dX6_measure_9 rfl ?_
        refine P_aald_o (pc := 10) (c) dX6_measure_10 sh_49_o (by decide) rfl (by omega) (by decide) (Fr_49_o _ (by omega)) ?_
        refine P_bipush_o (pc := 11) (x := (-4)) dX6_measure_11 (by decide) ?_
        obtain ⟨_, K, _, k1, rfl, rfl, hK1, hK2⟩ := c_fill_o (l := l) (D := D) (tw := tw) (I := J) (a := 50 + c) (n := 8) (x := (-4)) (shr_50_o c (by omega)) (by decide)
        refine P_callS_o (pc := 13) (S := []) (As := [_, _]) k1 dX6_measure_13 ok_J7_fill_53178 ml_X6_33 is_J7_fill_53178 ⟨by decide, by decide⟩ zret_v rfl ⟨rfl, by decide⟩ (Nat.le_of_ble_eq_true rfl) ?_
        refine P_aload_n_o (pc := 16) dX6_measure_16 rfl ?_
        refine P_iload_n_o (pc := 17) dX6_measure_17 rfl ?_
        refine P_aald_o (pc := 18) (c) dX6_measure_18 sh_49_o (by decide) rfl (by omega) (by decide) (Fr_49_o _ (by omega)) ?_
        refine P_iload_n_o (pc := 19) dX6_measure_19 rfl ?_
        refine P_iconst_o (pc := 20) (x := nI 0) dX6_measure_20 (by decide) ?_
        refine P_iast_o (pc := 21) (c) dX6_measure_21 (shr_50_o _ (by omega)) rfl (by omega) (by decide) ?_
        refine P_iincN_o (pc := 22) (c := 1) dX6_measure_22 rfl (by decide) (by decide) rfl ?_
        refine P_goto_o (pc := 25) (tgt := 2) dX6_measure_25 (by decide) ?_
        refine ih (c + 1) _ (by omega) (by omega) (zRf.u (fun a ha => (hK1 a (by omega)).trans (hF a ha)) (by omega)) (fun a b ha hb => ?_)
        by_cases e : a = c
        · subst e
          by_cases e2 : b = a
          · subst e2; rw [zu_s]; unfold zSm; rw [if_pos rfl]; rfl
          · rw [zu_n _ _ e2, hK2 b hb]; unfold zSm; rw [if_neg (fun z => e2 z.symm)]; rfl
        · rw [zu_o _ _ (by omega), hK1 _ (by omega)]
          exact hR a b (by omega) hb
  show ZP_o _ _ _ _ [some _, some _, some _, none, none, none] _ _ _ _
  refine P_iconst_o (pc := 0) (x := nI 0) dX6_measure_0 (by decide) ?_
  refine P_istore_n_o (pc := 1) dX6_measure_1 (by decide) rfl ?_
  exact loop1 9 0 I (by omega) (by omega) zRf.rf (fun a b ha hb => by omega)
set_option maxRecDepth 20000 in
theorem c_stclear_36_o {l : Launch} {D : va_G} {tw : Nat} {I : AI}  : ZP_o l D zm_X6_clear 0 (zent 2 [.ref 37]) [] I (zF_o tw) (fun v J G => v = none ∧ G = zF_o tw ∧ zDf 36 I J ∧ (∀ a, (a < 37 ∨ 41 + 8 ≤ a) → J a = I a) ∧ (J 37 0 = nI 4 ∧ J 37 1 = nI 0) ∧ ∀ a b, a < 8 → b < 8 → J (41 + a) b = nI 0) := by
  have loop : ∀ (d : Nat) (c : Nat) (J : AI), 8 - c < d → c ≤ 8 → (∀ a, (a < 37 ∨ 41 + 8 ≤ a) → J a = I a) → J 37 0 = nI 4 ∧ J 37 1 = nI 0 → (∀ a b, a < c → b < 8 → J (41 + a) b = nI 0) → ZP_o l D zm_X6_clear 12 [some (.ref 37), some (.int (nI c))] [] J (zF_o tw) (fun v J G => v = none ∧ G = zF_o tw ∧ zDf 36 I J ∧ (∀ a, (a < 37 ∨ 41 + 8 ≤ a) → J a = I a) ∧ (J 37 0 = nI 4 ∧ J 37 1 = nI 0) ∧ ∀ a b, a < 8 → b < 8 → J (41 + a) b = nI 0) := by
    intro d
    induction d with
    | zero =>
      intro c J hd
      exact absurd hd (by omega)
    | succ d ih =>
      intro c J hd hc hF h1 hR
      refine P_iload_n_o (pc := 12) dX6_clear_12 rfl ?_
      refine P_bipush_o (pc := 13) (x := nI 8) dX6_clear_13 (by decide) ?_
      refine P_icmp_geN_o (pc := 15) (tgt := 34) dX6_clear_15 (by decide) (by omega) (by omega) (fun h15 => ?_) (fun h15 => ?_)
      · exact P_ret_o (pc := 34) dX6_clear_34 (⟨rfl, rfl, fun a ha => hF a (by omega), fun a ha => hF a ha, h1, fun a b ha hb => hR a b (by omega) hb⟩)
      · refine P_aload_n_o (pc := 18) dX6_clear_18 rfl ?_
        refine P_getr_o (pc := 19) 6 4 dX6_clear_19 fl_X6_20 sh_37_o fr_6_4 F_37_4_o ?_
        refine P_iload_n_o (pc := 22) dX6_clear_22 rfl ?_
        refine P_aald_o (pc := 23) (c) dX6_clear_23 sh_40_o (by decide) rfl (by omega) (by decide) (Fr_40_o _ (by omega)) ?_
        refine P_iconst_o (pc := 24) (x := nI 0) dX6_clear_24 (by decide) ?_
        obtain ⟨_, K, _, k1, rfl, rfl, hK1, hK2⟩ := c_fill_o (l := l) (D := D) (tw := tw) (I := J) (a := 41 + c) (n := 8) (x := nI 0) (shr_41_o c (by omega)) (by decide)
        refine P_callS_o (pc := 25) (S := []) (As := [_, _]) k1 dX6_clear_25 ok_J7_fill_53178 ml_X6_33 is_J7_fill_53178 ⟨by decide, by decide⟩ zret_v rfl ⟨rfl, by decide⟩ (Nat.le_of_ble_eq_true rfl) ?_
        refine P_iincN_o (pc := 28) (c := 1) dX6_clear_28 rfl (by decide) (by decide) rfl ?_
        refine P_goto_o (pc := 31) (tgt := 12) dX6_clear_31 (by decide) ?_
        refine ih (c + 1) K (by omega) (by omega) (fun a ha => (hK1 a (by omega)).trans (hF a ha)) (by rw [hK1 _ (by omega)]; exact h1) (fun a b ha hb => ?_)
        by_cases e : a = c
        · subst e; exact hK2 b hb
        · rw [hK1 _ (by omega)]; exact hR a b (by omega) hb
  show ZP_o _ _ _ _ [some _, none] _ _ _ _
  refine P_aload_n_o (pc := 0) dX6_clear_0 rfl ?_
  refine P_iconst_o (pc := 1) (x := nI 4) dX6_clear_1 (by decide) ?_
  refine P_puti_o (pc := 2) 6 0 dX6_clear_2 fl_X6_26 sh_37_o fp_6_0 rfl rfl ?_
  refine P_aload_n_o (pc := 5) dX6_clear_5 rfl ?_
  refine P_iconst_o (pc := 6) (x := nI 0) dX6_clear_6 (by decide) ?_
  refine P_puti_o (pc := 7) 6 1 dX6_clear_7 fl_X6_30 sh_37_o fp_6_1 rfl rfl ?_
  refine P_iconst_o (pc := 10) (x := nI 0) dX6_clear_10 (by decide) ?_
  refine P_istore_n_o (pc := 11) dX6_clear_11 (by decide) rfl ?_
  exact loop 9 0 _ (by omega) (by omega) (fun a ha => by rw [zu_o _ _ (by omega), zu_o _ _ (by omega)]) ⟨rfl, rfl⟩ (fun a b ha hb => by omega)
set_option maxRecDepth 20000 in
theorem c_tclear_36_o {l : Launch} {D : va_G} {tw : Nat} {I : AI} {s : Nat → Nat → Nat} : ZP_o l D zm_X8_clear 0 (zent 1 [.ref 36]) [] I (zF_o tw) (fun v J G => v = none ∧ G = zF_o tw ∧ zDf 36 I J ∧ DrC (sIni s) J 36) := by
  show ZP_o _ _ _ _ [some _] _ _ _ _
  refine P_aload_n_o (pc := 0) dX8_clear_0 rfl ?_
  refine P_getr_o (pc := 1) 8 0 dX8_clear_1 fl_X8_12 sh_36_o fr_8_0 F_36_0_o ?_
  obtain ⟨_, K, _, k1, rfl, rfl, hK1, hK2, hK3, hK4⟩ := c_stclear_36_o (l := l) (D := D) (tw := tw) (I := I)
  refine P_callV_o (pc := 4) (S := []) (As := []) k1 dX8_clear_4 ok_X6_clear ml_X8_32 iv_X6_clear ⟨by decide, by decide⟩ zret_v rfl ⟨rfl, by decide⟩ sh_37_o ⟨by decide, rfl⟩ (Nat.le_of_ble_eq_true rfl) ?_
  refine P_aload_n_o (pc := 7) dX8_clear_7 rfl ?_
  refine P_getr_o (pc := 8) 8 1 dX8_clear_8 fl_X8_21 sh_36_o fr_8_1 F_36_1_o ?_
  refine P_iconst_o (pc := 11) (x := nI 0) dX8_clear_11 (by decide) ?_
  refine P_puti_o (pc := 12) 5 3 dX8_clear_12 fl_X8_35 sh_58_o fp_5_3 rfl rfl ?_
  refine P_aload_n_o (pc := 15) dX8_clear_15 rfl ?_
  refine P_getr_o (pc := 16) 8 2 dX8_clear_16 fl_X8_28 sh_36_o fr_8_2 F_36_2_o ?_
  refine P_iconst_o (pc := 19) (x := nI 0) dX8_clear_19 (by decide) ?_
  refine P_puti_o (pc := 20) 10 4 dX8_clear_20 fl_X8_39 sh_62_o fp_10_4 rfl rfl ?_
  refine P_aload_n_o (pc := 23) dX8_clear_23 rfl ?_
  refine P_iconst_o (pc := 24) (x := nI 2) dX8_clear_24 (by decide) ?_
  refine P_puti_o (pc := 25) 8 3 dX8_clear_25 fl_X8_40 sh_36_o fp_8_3 rfl rfl ?_
  refine P_aload_n_o (pc := 28) dX8_clear_28 rfl ?_
  refine P_iconst_o (pc := 29) (x := nI 3) dX8_clear_29 (by decide) ?_
  refine P_puti_o (pc := 30) 8 4 dX8_clear_30 fl_X8_43 sh_36_o fp_8_4 rfl rfl ?_
  refine P_aload_n_o (pc := 33) dX8_clear_33 rfl ?_
  refine P_iconst_o (pc := 34) (x := nI 1) dX8_clear_34 (by decide) ?_
  refine P_puti_o (pc := 35) 8 5 dX8_clear_35 fl_X8_46 sh_36_o fp_8_5 rfl rfl ?_
  exact P_ret_o (pc := 38) dX8_clear_38 (⟨rfl, rfl, ((((hK1.u (by decide)).u (by decide)).u (by decide)).u (by decide)).u (by decide), DrC.ini hK3 (fun a b ha hb => by rw [zu_o _ _ (by omega), zu_o _ _ (by omega), zu_o _ _ (by omega), zu_o _ _ (by omega), zu_o _ _ (by omega)]; exact hK4 a b ha hb) rfl rfl ⟨rfl, rfl, rfl⟩⟩)
set_option maxRecDepth 20000 in
theorem c_stadd_36_o {l : Launch} {D : va_G} {tw : Nat} {I : AI} {m a b x : Nat} (hm : I 37 1 = nI m) (hm2 : m < 12) (ha : a < 8) (hb : b < 8) : ZP_o l D zm_X6_add 0 (zent 4 [.ref 37, .int (nI a), .int (nI b), .int (nI x)]) [] I (zF_o tw) (fun v J G => v = none ∧ G = zF_o tw ∧ J = zSd I 36 m a b x) := by
  show ZP_o _ _ _ _ [some _, some _, some _, some _] _ _ _ _
  refine P_aload_n_o (pc := 0) dX6_add_0 rfl ?_
  refine P_geti_o (pc := 1) 6 1 (x := nI (m)) dX6_add_1 fl_X6_30 sh_37_o fi_6_1 (hm) ?_
  refine P_bipush_o (pc := 4) (x := nI 12) dX6_add_4 (by decide) ?_
  refine P_icmp_geF_o (pc := 6) (tgt := 57) dX6_add_6 (by decide) (by rw [nI_leI (by omega) (by omega)]; omega) ?_
  refine P_aload_n_o (pc := 9) dX6_add_9 rfl ?_
  refine P_getr_o (pc := 10) 6 2 dX6_add_10 fl_X6_9 sh_37_o fr_6_2 F_37_2_o ?_
  refine P_aload_n_o (pc := 13) dX6_add_13 rfl ?_
  refine P_geti_o (pc := 14) 6 1 (x := nI (m)) dX6_add_14 fl_X6_30 sh_37_o fi_6_1 (hm) ?_
  refine P_iload_n_o (pc := 17) dX6_add_17 rfl ?_
  refine P_iast_o (pc := 18) ((m)) dX6_add_18 sh_38_o rfl (by omega) (by decide) ?_
  refine P_aload_n_o (pc := 19) dX6_add_19 rfl ?_
  refine P_getr_o (pc := 20) 6 3 dX6_add_20 fl_X6_15 sh_37_o fr_6_3 F_37_3_o ?_
  refine P_aload_n_o (pc := 23) dX6_add_23 rfl ?_
  refine P_geti_o (pc := 24) 6 1 (x := nI (m)) dX6_add_24 fl_X6_30 sh_37_o fi_6_1 (hm) ?_
  refine P_iload_n_o (pc := 27) dX6_add_27 rfl ?_
  refine P_iast_o (pc := 28) ((m)) dX6_add_28 sh_39_o rfl (by omega) (by decide) ?_
  refine P_aload_n_o (pc := 29) dX6_add_29 rfl ?_
  refine P_getr_o (pc := 30) 6 4 dX6_add_30 fl_X6_20 sh_37_o fr_6_4 F_37_4_o ?_
  refine P_iload_n_o (pc := 33) dX6_add_33 rfl ?_
  refine P_aald_o (pc := 34) (a) dX6_add_34 sh_40_o (by decide) rfl (by omega) (by decide) (Fr_40_o _ (by omega)) ?_
  refine P_iload_n_o (pc := 35) dX6_add_35 rfl ?_
  refine P_iload_n_o (pc := 36) dX6_add_36 rfl ?_
  refine P_iast_o (pc := 37) (b) dX6_add_37 (shr_41_o _ (by omega)) rfl (by omega) (by decide) ?_
  refine P_aload_n_o (pc := 38) dX6_add_38 rfl ?_
  refine P_getr_o (pc := 39) 6 4 dX6_add_39 fl_X6_20 sh_37_o fr_6_4 F_37_4_o ?_
  refine P_iload_n_o (pc := 42) dX6_add_42 rfl ?_
  refine P_aald_o (pc := 43) (b) dX6_add_43 sh_40_o (by decide) rfl (by omega) (by decide) (Fr_40_o _ (by omega)) ?_
  refine P_iload_n_o (pc := 44) dX6_add_44 rfl ?_
  refine P_iload_n_o (pc := 45) dX6_add_45 rfl ?_
  refine P_iast_o (pc := 46) (a) dX6_add_46 (shr_41_o _ (by omega)) rfl (by omega) (by decide) ?_
  refine P_aload_n_o (pc := 47) dX6_add_47 rfl ?_
  refine P_dup_o (pc := 48) dX6_add_48 rfl ?_
  refine P_geti_o (pc := 49) 6 1 (x := nI (m)) dX6_add_49 fl_X6_30 sh_37_o fi_6_1 (by rw [zu_o _ _ (by omega), zu_o _ _ (by omega), zu_o _ _ (by omega), zu_o _ _ (by omega)]; exact hm) ?_
  refine P_iconst_o (pc := 52) (x := nI 1) dX6_add_52 (by decide) ?_
  refine P_iaddN_o (pc := 53) dX6_add_53 ?_
  refine P_puti_o (pc := 54) 6 1 dX6_add_54 fl_X6_30 sh_37_o fp_6_1 rfl rfl ?_
  exact P_ret_o (pc := 57) dX6_add_57 (⟨rfl, rfl, rfl⟩)
set_option maxRecDepth 20000 in
theorem c_wadd_36_o {l : Launch} {D : va_G} {tw : Nat} {I : AI} {m k f a : Nat} (hm : I 62 4 = nI m) (hm2 : m < 4) : ZP_o l D zm_X10_add 0 (zent 4 [.ref 62, .int (nI k), .int (nI f), .int (nI a)]) [] I (zF_o tw) (fun v J G => v = none ∧ G = zF_o tw ∧ J = zWd I 62 m k f a) := by
  show ZP_o _ _ _ _ [some _, some _, some _, some _] _ _ _ _
  refine P_aload_n_o (pc := 0) dX10_add_0 rfl ?_
  refine P_geti_o (pc := 1) 10 4 (x := nI (m)) dX10_add_1 fl_X10_24 sh_62_o fi_10_4 (hm) ?_
  refine P_iconst_o (pc := 4) (x := nI 4) dX10_add_4 (by decide) ?_
  refine P_icmp_geF_o (pc := 5) (tgt := 58) dX10_add_5 (by decide) (by rw [nI_leI (by omega) (by omega)]; omega) ?_
  refine P_aload_n_o (pc := 8) dX10_add_8 rfl ?_
  refine P_getr_o (pc := 9) 10 0 dX10_add_9 fl_X10_9 sh_62_o fr_10_0 F_62_0_o ?_
  refine P_aload_n_o (pc := 12) dX10_add_12 rfl ?_
  refine P_geti_o (pc := 13) 10 4 (x := nI (m)) dX10_add_13 fl_X10_24 sh_62_o fi_10_4 (hm) ?_
  refine P_iload_n_o (pc := 16) dX10_add_16 rfl ?_
  refine P_iast_o (pc := 17) ((m)) dX10_add_17 sh_63_o rfl (by omega) (by decide) ?_
  refine P_aload_n_o (pc := 18) dX10_add_18 rfl ?_
  refine P_getr_o (pc := 19) 10 1 dX10_add_19 fl_X10_15 sh_62_o fr_10_1 F_62_1_o ?_
  refine P_aload_n_o (pc := 22) dX10_add_22 rfl ?_
  refine P_geti_o (pc := 23) 10 4 (x := nI (m)) dX10_add_23 fl_X10_24 sh_62_o fi_10_4 (hm) ?_
  refine P_iload_n_o (pc := 26) dX10_add_26 rfl ?_
  refine P_iast_o (pc := 27) ((m)) dX10_add_27 sh_64_o rfl (by omega) (by decide) ?_
  refine P_aload_n_o (pc := 28) dX10_add_28 rfl ?_
  refine P_getr_o (pc := 29) 10 2 dX10_add_29 fl_X10_18 sh_62_o fr_10_2 F_62_2_o ?_
  refine P_aload_n_o (pc := 32) dX10_add_32 rfl ?_
  refine P_geti_o (pc := 33) 10 4 (x := nI (m)) dX10_add_33 fl_X10_24 sh_62_o fi_10_4 (hm) ?_
  refine P_iload_n_o (pc := 36) dX10_add_36 rfl ?_
  refine P_iast_o (pc := 37) ((m)) dX10_add_37 sh_65_o rfl (by omega) (by decide) ?_
  refine P_aload_n_o (pc := 38) dX10_add_38 rfl ?_
  refine P_getr_o (pc := 39) 10 3 dX10_add_39 fl_X10_21 sh_62_o fr_10_3 F_62_3_o ?_
  refine P_aload_n_o (pc := 42) dX10_add_42 rfl ?_
  refine P_geti_o (pc := 43) 10 4 (x := nI (m)) dX10_add_43 fl_X10_24 sh_62_o fi_10_4 (hm) ?_
  refine P_iload_n_o (pc := 46) dX10_add_46 rfl ?_
  refine P_iast_o (pc := 47) ((m)) dX10_add_47 sh_66_o rfl (by omega) (by decide) ?_
  refine P_aload_n_o (pc := 48) dX10_add_48 rfl ?_
  refine P_dup_o (pc := 49) dX10_add_49 rfl ?_
  refine P_geti_o (pc := 50) 10 4 (x := nI (m)) dX10_add_50 fl_X10_24 sh_62_o fi_10_4 (hm) ?_
  refine P_iconst_o (pc := 53) (x := nI 1) dX10_add_53 (by decide) ?_
  refine P_iaddN_o (pc := 54) dX10_add_54 ?_
  refine P_puti_o (pc := 55) 10 4 dX10_add_55 fl_X10_24 sh_62_o fp_10_4 rfl rfl ?_
  exact P_ret_o (pc := 58) dX10_add_58 (⟨rfl, rfl, rfl⟩)
set_option maxRecDepth 20000 in
theorem c_isWithin_o {l : Launch} {D : va_G} {tw : Nat} {I : AI} {x : Int32} {n : Nat} (hn : n < 2 ^ 31) : ZP_o l D zm_X11_isWithin 0 (zent 2 [.int x, .int (nI n)]) [] I (zF_o tw) (fun v J G => v = some (zb (zix x n)) ∧ I = J ∧ G = zF_o tw) := by
  show ZP_o _ _ _ _ [some _, some _] _ _ _ _
  refine P_iload_n_o (pc := 0) dX11_isWithin_0 rfl ?_
  refine P_if_lt_o (pc := 1) (tgt := 13) dX11_isWithin_1 (by decide) (fun h1 => ?_) (fun h1 => ?_)
  · refine P_iconst_o (pc := 13) (x := nI 0) dX11_isWithin_13 (by decide) ?_
    exact P_iret_o (pc := 14) dX11_isWithin_14 (⟨congrArg some (zb_f (fun z => by have := Int32.lt_iff_toInt_lt.mp h1; have z1 := z.1; exact absurd this (Int.not_lt.mpr z1))), rfl, rfl⟩)
  · refine P_iload_n_o (pc := 4) dX11_isWithin_4 rfl ?_
    refine P_iload_n_o (pc := 5) dX11_isWithin_5 rfl ?_
    refine P_icmp_ge_o (pc := 6) (tgt := 13) dX11_isWithin_6 (by decide) (fun h6 => ?_) (fun h6 => ?_)
    · refine P_iconst_o (pc := 13) (x := nI 0) dX11_isWithin_13 (by decide) ?_
      exact P_iret_o (pc := 14) dX11_isWithin_14 (⟨congrArg some (zb_f (fun z => by have := Int32.le_iff_toInt_le.mp h6; rw [nI_toInt hn] at this; have z2 := z.2; omega)), rfl, rfl⟩)
    · refine P_iconst_o (pc := 9) (x := nI 1) dX11_isWithin_9 (by decide) ?_
      refine P_goto_o (pc := 10) (tgt := 14) dX11_isWithin_10 (by decide) ?_
      exact P_iret_o (pc := 14) dX11_isWithin_14 (⟨congrArg some (zb_t ⟨by have := Int32.le_iff_toInt_le.mp (Int32.not_lt.mp h1); exact this, by have := Int32.lt_iff_toInt_lt.mp (Int32.not_le.mp h6); rw [nI_toInt hn] at this; exact this⟩), rfl, rfl⟩)
set_option maxRecDepth 20000 in
theorem c_readNumber_o {l : Launch} {D : va_G} {tw : Nat} {I : AI} {tx : Nat → Nat} {tn p : Nat} (hX : CTx tx tn I) (hp : I 3 1 = nI p) (hp2 : p ≤ 10000) : ZP_o l D zm_X2_readNumber 0 (zent 5 [.ref 3, .ref 1]) [] I (zF_o tw) (fun v J G => v = some (zNv (zNum tx tn p)) ∧ G = zF_o tw ∧ (∀ a, a ≠ 3 → J a = I a) ∧ J 3 2 = I 3 2 ∧ J 3 1 = nI (zNe tx tn p)) := by
  show ZP_o _ _ _ _ [some _, some _, none, none, none] _ _ _ _
  refine P_bipush_o (pc := 0) (x := (-4)) dX2_readNumber_0 (by decide) ?_
  refine P_istore_n_o (pc := 2) dX2_readNumber_2 (by decide) rfl ?_
  refine P_iconst_o (pc := 3) (x := nI 0) dX2_readNumber_3 (by decide) ?_
  refine P_istore_n_o (pc := 4) dX2_readNumber_4 (by decide) rfl ?_
  refine P_iload_n_o (pc := 5) dX2_readNumber_5 rfl ?_
  refine P_iconst_o (pc := 6) (x := nI 2) dX2_readNumber_6 (by decide) ?_
  refine P_icmp_geF_o (pc := 7) (tgt := 73) dX2_readNumber_7 (by decide) (by decide) ?_
  refine P_aload_n_o (pc := 10) dX2_readNumber_10 rfl ?_
  refine P_aload_n_o (pc := 11) dX2_readNumber_11 rfl ?_
  refine P_geti_o (pc := 12) 2 1 (x := nI (p)) dX2_readNumber_12 fl_X2_20 sh_3_o fi_2_1 (hp) ?_
  obtain ⟨_, _, _, kl0, rfl, rfl, rfl⟩ := c_letterAt_o (l := l) (D := D) (tw := tw) (I := I) (hX.rr zRr.rf) (p := p) (by omega)
  refine P_callV_o (pc := 15) (S := []) (As := [_]) kl0 dX2_readNumber_15 ok_X7_letterAt ml_X2_33 iv_X7_letterAt ⟨by decide, by decide⟩ (zret_i _) rfl ⟨rfl, by decide⟩ sh_1_o ⟨by decide, rfl⟩ (Nat.le_of_ble_eq_true rfl) ?_
  rcases hc0 : zCh tx tn p with _ | c0
  · refine P_istore_o (pc := 18) dX2_readNumber_18 (by decide) rfl ?_
    refine P_iload_o (pc := 20) dX2_readNumber_20 rfl ?_
    refine P_bipush_o (pc := 22) (x := nI 48) dX2_readNumber_22 (by decide) ?_
    refine P_icmp_ltT_o (pc := 24) (tgt := 34) dX2_readNumber_24 (by decide) (by decide) ?_
    refine P_iload_n_o (pc := 34) dX2_readNumber_34 rfl ?_
    refine P_iret_o (pc := 35) dX2_readNumber_35 ?_
    have hz : zNum tx tn p = (0, 0) := zNum_0 (zDg_no hc0)
    exact ⟨by rw [hz]; exact rfl, rfl, fun _ _ => rfl, rfl, by show _ = nI (p + (zNum tx tn p).1); rw [hz]; exact hp⟩
  · have hb0 := zCh_lt (fun k hk => (hX.2.2 k hk).2) hc0
    refine P_istore_o (pc := 18) dX2_readNumber_18 (by decide) rfl ?_
    refine P_iload_o (pc := 20) dX2_readNumber_20 rfl ?_
    refine P_bipush_o (pc := 22) (x := nI 48) dX2_readNumber_22 (by decide) ?_
    refine P_icmp_ltN_o (pc := 24) (tgt := 34) dX2_readNumber_24 (by decide) (by omega) (by omega) (fun h24 => ?_) (fun h24 => ?_)
    · refine P_iload_n_o (pc := 34) dX2_readNumber_34 rfl ?_
      refine P_iret_o (pc := 35) dX2_readNumber_35 ?_
      have hz : zNum tx tn p = (0, 0) := zNum_0 (zDg_bad hc0 (by omega))
      exact ⟨by rw [hz]; exact rfl, rfl, fun _ _ => rfl, rfl, by show _ = nI (p + (zNum tx tn p).1); rw [hz]; exact hp⟩
    · refine P_iload_o (pc := 27) dX2_readNumber_27 rfl ?_
      refine P_bipush_o (pc := 29) (x := nI 57) dX2_readNumber_29 (by decide) ?_
      refine P_icmp_leN_o (pc := 31) (tgt := 36) dX2_readNumber_31 (by decide) (by omega) (by omega) (fun h31 => ?_) (fun h31 => ?_)
      · refine P_iload_n_o (pc := 36) dX2_readNumber_36 rfl ?_
        refine P_bipush_o (pc := 37) (x := (-4)) dX2_readNumber_37 (by decide) ?_
        refine P_icmp_neF_o (pc := 39) (tgt := 46) dX2_readNumber_39 (by decide) (by decide) ?_
        refine P_iconst_o (pc := 42) (x := nI 0) dX2_readNumber_42 (by decide) ?_
        refine P_goto_o (pc := 43) (tgt := 50) dX2_readNumber_43 (by decide) ?_
        refine P_iload_o (pc := 50) dX2_readNumber_50 rfl ?_
        refine P_iaddN_o (pc := 52) dX2_readNumber_52 ?_
        refine P_bipush_o (pc := 53) (x := nI 48) dX2_readNumber_53 (by decide) ?_
        refine P_isubN_o (pc := 55) dX2_readNumber_55 (by omega) ?_
        refine P_istore_n_o (pc := 56) dX2_readNumber_56 (by decide) rfl ?_
        refine P_aload_n_o (pc := 57) dX2_readNumber_57 rfl ?_
        refine P_dup_o (pc := 58) dX2_readNumber_58 rfl ?_
        refine P_geti_o (pc := 59) 2 1 (x := nI (p)) dX2_readNumber_59 fl_X2_20 sh_3_o fi_2_1 (hp) ?_
        refine P_iconst_o (pc := 62) (x := nI 1) dX2_readNumber_62 (by decide) ?_
        refine P_iaddN_o (pc := 63) dX2_readNumber_63 ?_
        refine P_puti_o (pc := 64) 2 1 dX2_readNumber_64 fl_X2_20 sh_3_o fp_2_1 rfl rfl ?_
        refine P_iincN_o (pc := 67) (c := 1) dX2_readNumber_67 rfl (by decide) (by decide) rfl ?_
        refine P_goto_o (pc := 70) (tgt := 5) dX2_readNumber_70 (by decide) ?_
        refine P_iload_n_o (pc := 5) dX2_readNumber_5 rfl ?_
        refine P_iconst_o (pc := 6) (x := nI 2) dX2_readNumber_6 (by decide) ?_
        refine P_icmp_geF_o (pc := 7) (tgt := 73) dX2_readNumber_7 (by decide) (by decide) ?_
        refine P_aload_n_o (pc := 10) dX2_readNumber_10 rfl ?_
        refine P_aload_n_o (pc := 11) dX2_readNumber_11 rfl ?_
        refine P_geti_o (pc := 12) 2 1 (x := nI ((p + 1))) dX2_readNumber_12 fl_X2_20 sh_3_o fi_2_1 (rfl) ?_
        obtain ⟨_, _, _, kl1, rfl, rfl, rfl⟩ := c_letterAt_o (l := l) (D := D) (tw := tw) (I := (zu I 3 1 (nI (p + 1)))) (hX.rr (zRr.rf).u3) (p := p + 1) (by omega)
        refine P_callV_o (pc := 15) (S := []) (As := [_]) kl1 dX2_readNumber_15 ok_X7_letterAt ml_X2_33 iv_X7_letterAt ⟨by decide, by decide⟩ (zret_i _) rfl ⟨rfl, by decide⟩ sh_1_o ⟨by decide, rfl⟩ (Nat.le_of_ble_eq_true rfl) ?_
        rcases hc1 : zCh tx tn (p + 1) with _ | c1
        · refine P_istore_o (pc := 18) dX2_readNumber_18 (by decide) rfl ?_
          refine P_iload_o (pc := 20) dX2_readNumber_20 rfl ?_
          refine P_bipush_o (pc := 22) (x := nI 48) dX2_readNumber_22 (by decide) ?_
          refine P_icmp_ltT_o (pc := 24) (tgt := 34) dX2_readNumber_24 (by decide) (by decide) ?_
          refine P_iload_n_o (pc := 34) dX2_readNumber_34 rfl ?_
          refine P_iret_o (pc := 35) dX2_readNumber_35 ?_
          have hz : zNum tx tn p = (1, c0 - 48) := zNum_1 (zDg_ok hc0 ⟨by omega, by omega⟩) (zDg_no hc1)
          exact ⟨by rw [hz]; exact congrArg some (congrArg nI (by omega)), rfl, fun a ha => zu_o _ _ ha, rfl, by show _ = nI (p + (zNum tx tn p).1); rw [hz]; exact rfl⟩
        · have hb1 := zCh_lt (fun k hk => (hX.2.2 k hk).2) hc1
          refine P_istore_o (pc := 18) dX2_readNumber_18 (by decide) rfl ?_
          refine P_iload_o (pc := 20) dX2_readNumber_20 rfl ?_
          refine P_bipush_o (pc := 22) (x := nI 48) dX2_readNumber_22 (by decide) ?_
          refine P_icmp_ltN_o (pc := 24) (tgt := 34) dX2_readNumber_24 (by decide) (by omega) (by omega) (fun h24 => ?_) (fun h24 => ?_)
          · refine P_iload_n_o (pc := 34) dX2_readNumber_34 rfl ?_
            refine P_iret_o (pc := 35) dX2_readNumber_35 ?_
            have hz : zNum tx tn p = (1, c0 - 48) := zNum_1 (zDg_ok hc0 ⟨by omega, by omega⟩) (zDg_bad hc1 (by omega))
            exact ⟨by rw [hz]; exact congrArg some (congrArg nI (by omega)), rfl, fun a ha => zu_o _ _ ha, rfl, by show _ = nI (p + (zNum tx tn p).1); rw [hz]; exact rfl⟩
          · refine P_iload_o (pc := 27) dX2_readNumber_27 rfl ?_
            refine P_bipush_o (pc := 29) (x := nI 57) dX2_readNumber_29 (by decide) ?_
            refine P_icmp_leN_o (pc := 31) (tgt := 36) dX2_readNumber_31 (by decide) (by omega) (by omega) (fun h31 => ?_) (fun h31 => ?_)
            · refine P_iload_n_o (pc := 36) dX2_readNumber_36 rfl ?_
              refine P_bipush_o (pc := 37) (x := (-4)) dX2_readNumber_37 (by decide) ?_
              refine P_icmp_neT_o (pc := 39) (tgt := 46) dX2_readNumber_39 (by decide) (zne4 (by omega)) ?_
              refine P_bipush_o (pc := 46) (x := nI 10) dX2_readNumber_46 (by decide) ?_
              refine P_iload_n_o (pc := 48) dX2_readNumber_48 rfl ?_
              refine P_imulN_o (pc := 49) dX2_readNumber_49 ?_
              refine P_iload_o (pc := 50) dX2_readNumber_50 rfl ?_
              refine P_iaddN_o (pc := 52) dX2_readNumber_52 ?_
              refine P_bipush_o (pc := 53) (x := nI 48) dX2_readNumber_53 (by decide) ?_
              refine P_isubN_o (pc := 55) dX2_readNumber_55 (by omega) ?_
              refine P_istore_n_o (pc := 56) dX2_readNumber_56 (by decide) rfl ?_
              refine P_aload_n_o (pc := 57) dX2_readNumber_57 rfl ?_
              refine P_dup_o (pc := 58) dX2_readNumber_58 rfl ?_
              refine P_geti_o (pc := 59) 2 1 (x := nI ((p + 1))) dX2_readNumber_59 fl_X2_20 sh_3_o fi_2_1 (rfl) ?_
              refine P_iconst_o (pc := 62) (x := nI 1) dX2_readNumber_62 (by decide) ?_
              refine P_iaddN_o (pc := 63) dX2_readNumber_63 ?_
              refine P_puti_o (pc := 64) 2 1 dX2_readNumber_64 fl_X2_20 sh_3_o fp_2_1 rfl rfl ?_
              refine P_iincN_o (pc := 67) (c := 1) dX2_readNumber_67 rfl (by decide) (by decide) rfl ?_
              refine P_goto_o (pc := 70) (tgt := 5) dX2_readNumber_70 (by decide) ?_
              refine P_iload_n_o (pc := 5) dX2_readNumber_5 rfl ?_
              refine P_iconst_o (pc := 6) (x := nI 2) dX2_readNumber_6 (by decide) ?_
              refine P_icmp_geT_o (pc := 7) (tgt := 73) dX2_readNumber_7 (by decide) (by decide) ?_
              refine P_iload_n_o (pc := 73) dX2_readNumber_73 rfl ?_
              refine P_iret_o (pc := 74) dX2_readNumber_74 ?_
              have hz : zNum tx tn p = (2, 10 * (c0 - 48) + (c1 - 48)) := zNum_2 (zDg_ok hc0 ⟨by omega, by omega⟩) (zDg_ok hc1 ⟨by omega, by omega⟩)
              exact ⟨by rw [hz]; exact congrArg some (congrArg nI (by omega)), rfl, fun a ha => (zu_o _ _ ha).trans (zu_o _ _ ha), rfl, by show _ = nI (p + (zNum tx tn p).1); rw [hz]; exact rfl⟩
            · refine P_iload_n_o (pc := 34) dX2_readNumber_34 rfl ?_
              refine P_iret_o (pc := 35) dX2_readNumber_35 ?_
              have hz : zNum tx tn p = (1, c0 - 48) := zNum_1 (zDg_ok hc0 ⟨by omega, by omega⟩) (zDg_bad hc1 (by omega))
              exact ⟨by rw [hz]; exact congrArg some (congrArg nI (by omega)), rfl, fun a ha => zu_o _ _ ha, rfl, by show _ = nI (p + (zNum tx tn p).1); rw [hz]; exact rfl⟩
      · refine P_iload_n_o (pc := 34) dX2_readNumber_34 rfl ?_
        refine P_iret_o (pc := 35) dX2_readNumber_35 ?_
        have hz : zNum tx tn p = (0, 0) := zNum_0 (zDg_bad hc0 (by omega))
        exact ⟨by rw [hz]; exact rfl, rfl, fun _ _ => rfl, rfl, by show _ = nI (p + (zNum tx tn p).1); rw [hz]; exact hp⟩
set_option maxRecDepth 20000 in
theorem c_readNumbers_1_o {l : Launch} {D : va_G} {tw : Nat} {I : AI} {s : Nat → Nat → Nat} {p : Nat} (hX : CTx (s 110) (s 109 1) I) (hp : I 3 1 = nI p) (hp2 : p ≤ 1000) : ZP_o l D zm_X2_readNumbers 0 (zent 5 [.ref 3, .ref 1, .int (nI 1)]) [] I (zF_o tw) (fun v J G => v = some (zb (zRk (s 110) (s 109 1) p 59)) ∧ G = zF_o tw ∧ zRr I J ∧ ((zRk (s 110) (s 109 1) p 59) = true → J 4 0 = nI (zv1 s p) ∧ J 3 1 = nI (zn1 s p))) := by
  have z0 := zv1_le s p
  have z1 := zv1_le s (zn1 s p)
  have z2 := zv1_le s (zn1 s (zn1 s p))
  show ZP_o _ _ _ _ [some _, some _, some _, none, none] _ _ _ _
  refine P_iconst_o (pc := 0) (x := nI 0) dX2_readNumbers_0 (by decide) ?_
  refine P_istore_n_o (pc := 1) dX2_readNumbers_1 (by decide) rfl ?_
  refine P_iload_n_o (pc := 2) dX2_readNumbers_2 rfl ?_
  refine P_iload_n_o (pc := 3) dX2_readNumbers_3 rfl ?_
  refine P_icmp_geF_o (pc := 4) (tgt := 85) dX2_readNumbers_4 (by decide) (by decide) ?_
  refine P_iload_n_o (pc := 7) dX2_readNumbers_7 rfl ?_
  refine P_aload_n_o (pc := 8) dX2_readNumbers_8 rfl ?_
  refine P_getr_o (pc := 9) 2 0 dX2_readNumbers_9 fl_X2_9 sh_3_o fr_2_0 F_3_0_o ?_
  refine P_alen_o (pc := 12) (x := nI 3) dX2_readNumbers_12 sh_4_o (by decide) (by decide) rfl ?_
  refine P_icmp_geF_o (pc := 13) (tgt := 85) dX2_readNumbers_13 (by decide) (by decide) ?_
  refine P_aload_n_o (pc := 16) dX2_readNumbers_16 rfl ?_
  refine P_getr_o (pc := 17) 2 0 dX2_readNumbers_17 fl_X2_9 sh_3_o fr_2_0 F_3_0_o ?_
  refine P_iload_n_o (pc := 20) dX2_readNumbers_20 rfl ?_
  refine P_aload_n_o (pc := 21) dX2_readNumbers_21 rfl ?_
  refine P_aload_n_o (pc := 22) dX2_readNumbers_22 rfl ?_
  obtain ⟨_, K0, _, kn0, rfl, rfl, a0, b0, c0⟩ := c_readNumber_o (l := l) (D := D) (tw := tw) (I := I) hX (p := p) hp (by omega)
  refine P_callV_o (pc := 23) (S := [_, _]) (As := [_]) kn0 dX2_readNumbers_23 ok_X2_readNumber ml_X2_45 iv_X2_readNumber ⟨by decide, by decide⟩ (zret_i _) rfl ⟨rfl, by decide⟩ sh_3_o ⟨by decide, rfl⟩ (Nat.le_of_ble_eq_true rfl) ?_
  have rk0 : zRr I K0 := (⟨fun a h3 h4 => a0 a h3, b0⟩ : zRr I K0)
  by_cases hz0 : (zNum (s 110) (s 109 1) p).1 = 0
  · have hv0 : zNv (zNum (s 110) (s 109 1) p) = -4 := if_pos hz0
    rw [hv0]
    refine P_iast_o (pc := 26) (0) dX2_readNumbers_26 sh_4_o rfl (by omega) (by decide) ?_
    refine P_iload_n_o (pc := 27) dX2_readNumbers_27 rfl ?_
    refine P_iconst_o (pc := 28) (x := nI 1) dX2_readNumbers_28 (by decide) ?_
    refine P_iaddN_o (pc := 29) dX2_readNumbers_29 ?_
    refine P_iload_n_o (pc := 30) dX2_readNumbers_30 rfl ?_
    refine P_icmp_geT_o (pc := 31) (tgt := 39) dX2_readNumbers_31 (by decide) (by decide) ?_
    refine P_bipush_o (pc := 39) (x := nI 59) dX2_readNumbers_39 (by decide) ?_
    refine P_istore_o (pc := 41) dX2_readNumbers_41 (by decide) rfl ?_
    refine P_aload_n_o (pc := 43) dX2_readNumbers_43 rfl ?_
    refine P_getr_o (pc := 44) 2 0 dX2_readNumbers_44 fl_X2_9 sh_3_o fr_2_0 F_3_0_o ?_
    refine P_iload_n_o (pc := 47) dX2_readNumbers_47 rfl ?_
    refine P_iald_o (pc := 48) (0) (x := (-4)) dX2_readNumbers_48 sh_4_o rfl (by omega) (by decide) (zu_s _ _ _ _) ?_
    refine P_bipush_o (pc := 49) (x := (-4)) dX2_readNumbers_49 (by decide) ?_
    refine P_icmp_eqT_o (pc := 51) (tgt := 67) dX2_readNumbers_51 (by decide) rfl ?_
    refine P_iconst_o (pc := 67) (x := nI 0) dX2_readNumbers_67 (by decide) ?_
    refine P_iret_o (pc := 68) dX2_readNumbers_68 ?_
    have f0 : zRk (s 110) (s 109 1) p 59 = false := zRk_0 hz0
    have fa : (zRk (s 110) (s 109 1) p 59) = false := by rw [f0] <;> rfl
    refine ⟨by rw [fa]; rfl, rfl, rk0.u4, fun z => by rw [fa] at z; cases z⟩
  · have hv0 : zNv (zNum (s 110) (s 109 1) p) = nI (zv1 s p) := if_neg hz0
    rw [hv0]
    have hl0 := zNum_le (s 110) (s 109 1) p
    refine P_iast_o (pc := 26) (0) dX2_readNumbers_26 sh_4_o rfl (by omega) (by decide) ?_
    refine P_iload_n_o (pc := 27) dX2_readNumbers_27 rfl ?_
    refine P_iconst_o (pc := 28) (x := nI 1) dX2_readNumbers_28 (by decide) ?_
    refine P_iaddN_o (pc := 29) dX2_readNumbers_29 ?_
    refine P_iload_n_o (pc := 30) dX2_readNumbers_30 rfl ?_
    refine P_icmp_geT_o (pc := 31) (tgt := 39) dX2_readNumbers_31 (by decide) (by decide) ?_
    refine P_bipush_o (pc := 39) (x := nI 59) dX2_readNumbers_39 (by decide) ?_
    refine P_istore_o (pc := 41) dX2_readNumbers_41 (by decide) rfl ?_
    refine P_aload_n_o (pc := 43) dX2_readNumbers_43 rfl ?_
    refine P_getr_o (pc := 44) 2 0 dX2_readNumbers_44 fl_X2_9 sh_3_o fr_2_0 F_3_0_o ?_
    refine P_iload_n_o (pc := 47) dX2_readNumbers_47 rfl ?_
    refine P_iald_o (pc := 48) (0) (x := nI (zv1 s p)) dX2_readNumbers_48 sh_4_o rfl (by omega) (by decide) (zu_s _ _ _ _) ?_
    refine P_bipush_o (pc := 49) (x := (-4)) dX2_readNumbers_49 (by decide) ?_
    refine P_icmp_eqF_o (pc := 51) (tgt := 67) dX2_readNumbers_51 (by decide) (zne4 (by omega)) ?_
    refine P_aload_n_o (pc := 54) dX2_readNumbers_54 rfl ?_
    refine P_aload_n_o (pc := 55) dX2_readNumbers_55 rfl ?_
    refine P_geti_o (pc := 56) 2 1 (x := nI (zNe (s 110) (s 109 1) p)) dX2_readNumbers_56 fl_X2_20 sh_3_o fi_2_1 (c0) ?_
    obtain ⟨_, _, _, kl0, rfl, rfl, rfl⟩ := c_letterAt_o (l := l) (D := D) (tw := tw) (I := zu K0 4 0 (nI (zv1 s p))) (hX.rr rk0.u4) (p := zNe (s 110) (s 109 1) p) (by show p + (zNum (s 110) (s 109 1) p).1 < _; omega)
    refine P_callV_o (pc := 59) (S := []) (As := [_]) kl0 dX2_readNumbers_59 ok_X7_letterAt ml_X2_33 iv_X7_letterAt ⟨by decide, by decide⟩ (zret_i _) rfl ⟨rfl, by decide⟩ sh_1_o ⟨by decide, rfl⟩ (Nat.le_of_ble_eq_true rfl) ?_
    refine P_iload_o (pc := 62) dX2_readNumbers_62 rfl ?_
    refine P_icmp_eq_o (pc := 64) (tgt := 69) dX2_readNumbers_64 (by decide) (fun h64 => ?_) (fun h64 => ?_)
    · have t0 : zRk (s 110) (s 109 1) p 59 = true := zRk_t hz0 ((zo_chr4 (by decide) (fun c e => by have := zCh_lt (fun k hk => (hX.2.2 k hk).2) e; omega)).mp h64)
      refine P_aload_n_o (pc := 69) dX2_readNumbers_69 rfl ?_
      refine P_dup_o (pc := 70) dX2_readNumbers_70 rfl ?_
      refine P_geti_o (pc := 71) 2 1 (x := nI (zNe (s 110) (s 109 1) p)) dX2_readNumbers_71 fl_X2_20 sh_3_o fi_2_1 (c0) ?_
      refine P_iconst_o (pc := 74) (x := nI 1) dX2_readNumbers_74 (by decide) ?_
      refine P_iaddN_o (pc := 75) dX2_readNumbers_75 ?_
      refine P_puti_o (pc := 76) 2 1 dX2_readNumbers_76 fl_X2_20 sh_3_o fp_2_1 rfl rfl ?_
      refine P_iincN_o (pc := 79) (c := 1) dX2_readNumbers_79 rfl (by decide) (by decide) rfl ?_
      refine P_goto_o (pc := 82) (tgt := 2) dX2_readNumbers_82 (by decide) ?_
      obtain ⟨M1, hM1⟩ : ∃ M, M = zu (zu K0 4 0 (nI (zv1 s p))) 3 1 (nI (zn1 s p)) := ⟨_, rfl⟩
      have r1 : zRr I M1 := by rw [hM1]; exact (rk0.u4).u3
      have q1 : M1 3 1 = nI (zn1 s p) := by rw [hM1]; rfl
      have g0_1 : M1 4 0 = nI (zv1 s p) := by rw [hM1]; rfl
      show ZP_o l D zm_X2_readNumbers 2 [some (.ref 3), some (.ref 1), some (.int (nI 1)), some (.int (nI 1)), some (.int (nI 59))] [] (zu (zu K0 4 0 (nI (zv1 s p))) 3 1 (nI (zn1 s p))) (zF_o tw) _
      rw [← hM1]
      refine P_iload_n_o (pc := 2) dX2_readNumbers_2 rfl ?_
      refine P_iload_n_o (pc := 3) dX2_readNumbers_3 rfl ?_
      refine P_icmp_geT_o (pc := 4) (tgt := 85) dX2_readNumbers_4 (by decide) (by decide) ?_
      refine P_iconst_o (pc := 85) (x := nI 1) dX2_readNumbers_85 (by decide) ?_
      refine P_iret_o (pc := 86) dX2_readNumbers_86 ?_
      refine ⟨by rw [t0]; rfl, rfl, r1, fun _ => ⟨g0_1, q1⟩⟩
    · refine P_iconst_o (pc := 67) (x := nI 0) dX2_readNumbers_67 (by decide) ?_
      refine P_iret_o (pc := 68) dX2_readNumbers_68 ?_
      have f0 : zRk (s 110) (s 109 1) p 59 = false := zRk_f (fun z => h64 ((zo_chr4 (by decide) (fun c e => by have := zCh_lt (fun k hk => (hX.2.2 k hk).2) e; omega)).mpr z))
      have fa : (zRk (s 110) (s 109 1) p 59) = false := by rw [f0] <;> rfl
      refine ⟨by rw [fa]; rfl, rfl, rk0.u4, fun z => by rw [fa] at z; cases z⟩
