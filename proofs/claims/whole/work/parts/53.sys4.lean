set_option maxRecDepth 20000 in
theorem c_pclear {l : Launch} {D : va_G} {tw : Nat} {I : AI}  : ZP l D zm_X1_clear 0 (zent 1 [.ref 97]) [] I (zF tw) (fun v J G => v = none ∧ G = zF tw ∧ zPf I J ∧ zPic J none) := by
  show ZP _ _ _ _ [some _] _ _ _ _
  refine P_aload_n (pc := 0) dX1_clear_0 rfl ?_
  refine P_bipush (pc := 1) (x := (-4)) dX1_clear_1 (by decide) ?_
  refine P_puti (pc := 3) 1 0 dX1_clear_3 fl_X1_9 sh_97 fp_1_0 rfl rfl ?_
  refine P_aload_n (pc := 6) dX1_clear_6 rfl ?_
  refine P_bipush (pc := 7) (x := (-4)) dX1_clear_7 (by decide) ?_
  refine P_puti (pc := 9) 1 1 dX1_clear_9 fl_X1_15 sh_97 fp_1_1 rfl rfl ?_
  exact P_ret (pc := 12) dX1_clear_12 (⟨rfl, rfl, (zPf.rf.u).u, rfl, rfl⟩)
set_option maxRecDepth 20000 in
theorem c_offerMost {l : Launch} {D : va_G} {tw : Nat} {I : AI} {pk : Option (Nat × Int32)} (hp : zPic I pk) (hpk : ∀ k w, pk = some (k, w) → k < 2 ^ 31) {q : Nat} {u : Int32} : ZP l D zm_X1_offerMost 0 (zent 3 [.ref 97, .int (nI q), .int u]) [] I (zF tw) (fun v J G => v = none ∧ G = zF tw ∧ zPf I J ∧ zPic J (zOfM pk q u)) := by
  show ZP _ _ _ _ [some _, some _, some _] _ _ _ _
  rcases pk with _ | ⟨k, w⟩
  · skip
    refine P_aload_n (pc := 0) dX1_offerMost_0 rfl ?_
    refine P_geti (pc := 1) 1 0 (x := (-4)) dX1_offerMost_1 fl_X1_9 sh_97 fi_1_0 (hp.1) ?_
    refine P_bipush (pc := 4) (x := (-4)) dX1_offerMost_4 (by decide) ?_
    refine P_icmp_eqT (pc := 6) (tgt := 17) dX1_offerMost_6 (by decide) rfl ?_
    refine P_aload_n (pc := 17) dX1_offerMost_17 rfl ?_
    refine P_iload_n (pc := 18) dX1_offerMost_18 rfl ?_
    refine P_puti (pc := 19) 1 0 dX1_offerMost_19 fl_X1_9 sh_97 fp_1_0 rfl rfl ?_
    refine P_aload_n (pc := 22) dX1_offerMost_22 rfl ?_
    refine P_iload_n (pc := 23) dX1_offerMost_23 rfl ?_
    refine P_puti (pc := 24) 1 1 dX1_offerMost_24 fl_X1_15 sh_97 fp_1_1 rfl rfl ?_
    exact P_ret (pc := 27) dX1_offerMost_27 (⟨rfl, rfl, (zPf.rf.u).u, rfl, rfl⟩)
  · skip
    refine P_aload_n (pc := 0) dX1_offerMost_0 rfl ?_
    refine P_geti (pc := 1) 1 0 (x := nI (k)) dX1_offerMost_1 fl_X1_9 sh_97 fi_1_0 (hp.1) ?_
    refine P_bipush (pc := 4) (x := (-4)) dX1_offerMost_4 (by decide) ?_
    refine P_icmp_eqF (pc := 6) (tgt := 17) dX1_offerMost_6 (by decide) (zne4 (by have := hpk k w rfl; omega)) ?_
    refine P_iload_n (pc := 9) dX1_offerMost_9 rfl ?_
    refine P_aload_n (pc := 10) dX1_offerMost_10 rfl ?_
    refine P_geti (pc := 11) 1 1 (x := w) dX1_offerMost_11 fl_X1_15 sh_97 fi_1_1 (hp.2) ?_
    refine P_icmp_le (pc := 14) (tgt := 27) dX1_offerMost_14 (by decide) (fun h14 => ?_) (fun h14 => ?_)
    · exact P_ret (pc := 27) dX1_offerMost_27 (⟨rfl, rfl, zPf.rf, by rw [zOfM, if_neg (Int32.not_lt.mpr h14)]; exact hp⟩)
    · refine P_aload_n (pc := 17) dX1_offerMost_17 rfl ?_
      refine P_iload_n (pc := 18) dX1_offerMost_18 rfl ?_
      refine P_puti (pc := 19) 1 0 dX1_offerMost_19 fl_X1_9 sh_97 fp_1_0 rfl rfl ?_
      refine P_aload_n (pc := 22) dX1_offerMost_22 rfl ?_
      refine P_iload_n (pc := 23) dX1_offerMost_23 rfl ?_
      refine P_puti (pc := 24) 1 1 dX1_offerMost_24 fl_X1_15 sh_97 fp_1_1 rfl rfl ?_
      exact P_ret (pc := 27) dX1_offerMost_27 (⟨rfl, rfl, (zPf.rf.u).u, by rw [zOfM, if_pos (Int32.not_le.mp h14)]; exact ⟨rfl, rfl⟩⟩)
set_option maxRecDepth 20000 in
theorem c_offerLeast {l : Launch} {D : va_G} {tw : Nat} {I : AI} {pk : Option (Nat × Int32)} (hp : zPic I pk) (hpk : ∀ k w, pk = some (k, w) → k < 2 ^ 31) {q : Nat} {u : Int32} : ZP l D zm_X1_offerLeast 0 (zent 3 [.ref 97, .int (nI q), .int u]) [] I (zF tw) (fun v J G => v = none ∧ G = zF tw ∧ zPf I J ∧ zPic J (zOfL pk q u)) := by
  show ZP _ _ _ _ [some _, some _, some _] _ _ _ _
  rcases pk with _ | ⟨k, w⟩
  · skip
    refine P_aload_n (pc := 0) dX1_offerLeast_0 rfl ?_
    refine P_geti (pc := 1) 1 0 (x := (-4)) dX1_offerLeast_1 fl_X1_9 sh_97 fi_1_0 (hp.1) ?_
    refine P_bipush (pc := 4) (x := (-4)) dX1_offerLeast_4 (by decide) ?_
    refine P_icmp_eqT (pc := 6) (tgt := 17) dX1_offerLeast_6 (by decide) rfl ?_
    refine P_aload_n (pc := 17) dX1_offerLeast_17 rfl ?_
    refine P_iload_n (pc := 18) dX1_offerLeast_18 rfl ?_
    refine P_puti (pc := 19) 1 0 dX1_offerLeast_19 fl_X1_9 sh_97 fp_1_0 rfl rfl ?_
    refine P_aload_n (pc := 22) dX1_offerLeast_22 rfl ?_
    refine P_iload_n (pc := 23) dX1_offerLeast_23 rfl ?_
    refine P_puti (pc := 24) 1 1 dX1_offerLeast_24 fl_X1_15 sh_97 fp_1_1 rfl rfl ?_
    exact P_ret (pc := 27) dX1_offerLeast_27 (⟨rfl, rfl, (zPf.rf.u).u, rfl, rfl⟩)
  · skip
    refine P_aload_n (pc := 0) dX1_offerLeast_0 rfl ?_
    refine P_geti (pc := 1) 1 0 (x := nI (k)) dX1_offerLeast_1 fl_X1_9 sh_97 fi_1_0 (hp.1) ?_
    refine P_bipush (pc := 4) (x := (-4)) dX1_offerLeast_4 (by decide) ?_
    refine P_icmp_eqF (pc := 6) (tgt := 17) dX1_offerLeast_6 (by decide) (zne4 (by have := hpk k w rfl; omega)) ?_
    refine P_iload_n (pc := 9) dX1_offerLeast_9 rfl ?_
    refine P_aload_n (pc := 10) dX1_offerLeast_10 rfl ?_
    refine P_geti (pc := 11) 1 1 (x := w) dX1_offerLeast_11 fl_X1_15 sh_97 fi_1_1 (hp.2) ?_
    refine P_icmp_ge (pc := 14) (tgt := 27) dX1_offerLeast_14 (by decide) (fun h14 => ?_) (fun h14 => ?_)
    · exact P_ret (pc := 27) dX1_offerLeast_27 (⟨rfl, rfl, zPf.rf, by rw [zOfL, if_neg (Int32.not_lt.mpr h14)]; exact hp⟩)
    · refine P_aload_n (pc := 17) dX1_offerLeast_17 rfl ?_
      refine P_iload_n (pc := 18) dX1_offerLeast_18 rfl ?_
      refine P_puti (pc := 19) 1 0 dX1_offerLeast_19 fl_X1_9 sh_97 fp_1_0 rfl rfl ?_
      refine P_aload_n (pc := 22) dX1_offerLeast_22 rfl ?_
      refine P_iload_n (pc := 23) dX1_offerLeast_23 rfl ?_
      refine P_puti (pc := 24) 1 1 dX1_offerLeast_24 fl_X1_15 sh_97 fp_1_1 rfl rfl ?_
      exact P_ret (pc := 27) dX1_offerLeast_27 (⟨rfl, rfl, (zPf.rf.u).u, by rw [zOfL, if_pos (Int32.not_le.mp h14)]; exact ⟨rfl, rfl⟩⟩)
set_option maxRecDepth 20000 in
theorem c_answer {l : Launch} {D : va_G} {tw : Nat} {I : AI} {pk : Option (Nat × Int32)} (hp : zPic I pk) {x : Nat} (hx : x < 2 ^ 31) : ZP l D zm_X1_answer 0 (zent 2 [.ref 97, .int (nI x)]) [] I (zF tw) (fun v J G => v = some (if x = 0 then zp1 pk else zp2 pk) ∧ I = J ∧ G = zF tw) := by
  show ZP _ _ _ _ [some _, some _] _ _ _ _
  refine P_iload_n (pc := 0) dX1_answer_0 rfl ?_
  refine P_if_neN (pc := 1) (tgt := 11) dX1_answer_1 (by decide) (by omega) (fun h1 => ?_) (fun h1 => ?_)
  · refine P_aload_n (pc := 11) dX1_answer_11 rfl ?_
    refine P_geti (pc := 12) 1 1 (x := zp2 pk) dX1_answer_12 fl_X1_15 sh_97 fi_1_1 (hp.2) ?_
    exact P_iret (pc := 15) dX1_answer_15 (⟨by rw [if_neg (by omega)], rfl, rfl⟩)
  · refine P_aload_n (pc := 4) dX1_answer_4 rfl ?_
    refine P_geti (pc := 5) 1 0 (x := zp1 pk) dX1_answer_5 fl_X1_9 sh_97 fi_1_0 (hp.1) ?_
    refine P_goto (pc := 8) (tgt := 15) dX1_answer_8 (by decide) ?_
    exact P_iret (pc := 15) dX1_answer_15 (⟨by rw [if_pos (by omega)], rfl, rfl⟩)
set_option maxRecDepth 20000 in
theorem c_move_27 {l : Launch} {D : va_G} {tw : Nat} {I : AI} {f t : Nat} (hf : f < 9) (ht : t < 9) : ZP l D zm_X5_move 0 (zent 3 [.ref 27, .int (nI f), .int (nI t)]) [] I (zF tw) (fun v J G => v = none ∧ G = zF tw ∧ J = zMv I 27 f t) := by
  show ZP _ _ _ _ [some _, some _, some _] _ _ _ _
  refine P_aload_n (pc := 0) dX5_move_0 rfl ?_
  refine P_getr (pc := 1) 5 0 dX5_move_1 fl_X5_11 sh_27 fr_5_0 F_27_0 ?_
  refine P_iload_n (pc := 4) dX5_move_4 rfl ?_
  refine P_aload_n (pc := 5) dX5_move_5 rfl ?_
  refine P_getr (pc := 6) 5 0 dX5_move_6 fl_X5_11 sh_27 fr_5_0 F_27_0 ?_
  refine P_iload_n (pc := 9) dX5_move_9 rfl ?_
  refine P_iald (pc := 10) (f) (x := I 28 f) dX5_move_10 sh_28 rfl (by omega) (by decide) (rfl) ?_
  refine P_iast (pc := 11) (t) dX5_move_11 sh_28 rfl (by omega) (by decide) ?_
  refine P_aload_n (pc := 12) dX5_move_12 rfl ?_
  refine P_getr (pc := 13) 5 1 dX5_move_13 fl_X5_15 sh_27 fr_5_1 F_27_1 ?_
  refine P_iload_n (pc := 16) dX5_move_16 rfl ?_
  refine P_aload_n (pc := 17) dX5_move_17 rfl ?_
  refine P_getr (pc := 18) 5 1 dX5_move_18 fl_X5_15 sh_27 fr_5_1 F_27_1 ?_
  refine P_iload_n (pc := 21) dX5_move_21 rfl ?_
  refine P_iald (pc := 22) (f) (x := I 29 f) dX5_move_22 sh_29 rfl (by omega) (by decide) (rfl) ?_
  refine P_iast (pc := 23) (t) dX5_move_23 sh_29 rfl (by omega) (by decide) ?_
  refine P_aload_n (pc := 24) dX5_move_24 rfl ?_
  refine P_getr (pc := 25) 5 2 dX5_move_25 fl_X5_18 sh_27 fr_5_2 F_27_2 ?_
  refine P_iload_n (pc := 28) dX5_move_28 rfl ?_
  refine P_aload_n (pc := 29) dX5_move_29 rfl ?_
  refine P_getr (pc := 30) 5 2 dX5_move_30 fl_X5_18 sh_27 fr_5_2 F_27_2 ?_
  refine P_iload_n (pc := 33) dX5_move_33 rfl ?_
  refine P_iald (pc := 34) (f) (x := I 30 f) dX5_move_34 sh_30 rfl (by omega) (by decide) (rfl) ?_
  refine P_iast (pc := 35) (t) dX5_move_35 sh_30 rfl (by omega) (by decide) ?_
  exact P_ret (pc := 36) dX5_move_36 (⟨rfl, rfl, rfl⟩)
set_option maxRecDepth 20000 in
theorem c_insert_27 {l : Launch} {D : va_G} {tw : Nat} {I : AI} {m : Nat} {gc gt gn : Nat → Nat} (hS : CSg m gc gt gn I 27) {k c a n : Nat} (hk : k ≤ m) (hm8 : m ≤ 8) (hc : c < 8) (ha : a < 8) (hn : n < 8) : ZP l D zm_X5_insert 0 (zent 6 [.ref 27, .int (nI k), .int (nI c), .int (nI a), .int (nI n)]) [] I (zF tw) (fun v J G => v = none ∧ G = zF tw ∧ zGf 27 I J ∧ CSg (m + 1) (insN gc k c) (insN gt k a) (insN gn k n) J 27) := by
  have loop : ∀ (d : Nat) (b : Nat) (J : AI), b < d → k ≤ b → b ≤ m → zShU I J 27 b m → ZP l D zm_X5_insert 28 [some (.ref 27), some (.int (nI k)), some (.int (nI c)), some (.int (nI a)), some (.int (nI n)), some (.int (nI b))] [] J (zF tw) (fun v J G => v = none ∧ G = zF tw ∧ zGf 27 I J ∧ CSg (m + 1) (insN gc k c) (insN gt k a) (insN gn k n) J 27) := by
    intro d
    induction d with
    | zero =>
      intro b J hd
      exact absurd hd (by omega)
    | succ d ih =>
      intro b J hd hkb hbm h
      by_cases hbk : b = k
      · have hbk2 : k = b := hbk.symm
        subst hbk2
        refine P_iload (pc := 28) dX5_insert_28 rfl ?_
        refine P_iload_n (pc := 30) dX5_insert_30 rfl ?_
        refine P_icmp_leT (pc := 31) (tgt := 50) dX5_insert_31 (by decide) (Int32.le_refl _) ?_
        refine P_aload_n (pc := 50) dX5_insert_50 rfl ?_
        refine P_getr (pc := 51) 5 0 dX5_insert_51 fl_X5_11 sh_27 fr_5_0 F_27_0 ?_
        refine P_iload_n (pc := 54) dX5_insert_54 rfl ?_
        refine P_iload_n (pc := 55) dX5_insert_55 rfl ?_
        refine P_iast (pc := 56) (k) dX5_insert_56 sh_28 rfl (by omega) (by decide) ?_
        refine P_aload_n (pc := 57) dX5_insert_57 rfl ?_
        refine P_getr (pc := 58) 5 1 dX5_insert_58 fl_X5_15 sh_27 fr_5_1 F_27_1 ?_
        refine P_iload_n (pc := 61) dX5_insert_61 rfl ?_
        refine P_iload_n (pc := 62) dX5_insert_62 rfl ?_
        refine P_iast (pc := 63) (k) dX5_insert_63 sh_29 rfl (by omega) (by decide) ?_
        refine P_aload_n (pc := 64) dX5_insert_64 rfl ?_
        refine P_getr (pc := 65) 5 2 dX5_insert_65 fl_X5_18 sh_27 fr_5_2 F_27_2 ?_
        refine P_iload_n (pc := 68) dX5_insert_68 rfl ?_
        refine P_iload (pc := 69) dX5_insert_69 rfl ?_
        refine P_iast (pc := 71) (k) dX5_insert_71 sh_30 rfl (by omega) (by decide) ?_
        refine P_aload_n (pc := 72) dX5_insert_72 rfl ?_
        refine P_dup (pc := 73) dX5_insert_73 rfl ?_
        refine P_geti (pc := 74) 5 3 (x := nI (m)) dX5_insert_74 fl_X5_21 sh_27 fi_5_3 ((congrFun (h.1 27 (by decide) (by decide) (by decide)) 3).trans hS.1) ?_
        refine P_iconst (pc := 77) (x := nI 1) dX5_insert_77 (by decide) ?_
        refine P_iaddN (pc := 78) dX5_insert_78 ?_
        refine P_puti (pc := 79) 5 3 dX5_insert_79 fl_X5_21 sh_27 fp_5_3 rfl rfl ?_
        exact P_ret (pc := 82) dX5_insert_82 (⟨rfl, rfl, (((( (show zGf 27 I J from fun a h1 h2 h3 h4 => h.1 a h2 h3 h4).u (by decide)).u (by decide)).u (by decide)).u (by decide)), h.ins hS hk hm8 hc ha hn⟩)
      · obtain ⟨e, rfl⟩ : ∃ e, b = e + 1 := ⟨b - 1, by omega⟩
        refine P_iload (pc := 28) dX5_insert_28 rfl ?_
        refine P_iload_n (pc := 30) dX5_insert_30 rfl ?_
        refine P_icmp_leF (pc := 31) (tgt := 50) dX5_insert_31 (by decide) (by rw [nI_leI (by omega) (by omega)]; omega) ?_
        refine P_aload_n (pc := 34) dX5_insert_34 rfl ?_
        refine P_iload (pc := 35) dX5_insert_35 rfl ?_
        refine P_iconst (pc := 37) (x := nI 1) dX5_insert_37 (by decide) ?_
        refine P_isubN (pc := 38) dX5_insert_38 (by omega) ?_
        refine P_iload (pc := 39) dX5_insert_39 rfl ?_
        obtain ⟨_, K, _, k1, rfl, rfl, hK⟩ := c_move_27 (l := l) (D := D) (tw := tw) (I := J) (f := e) (t := e + 1) (by omega) (by omega)
        refine P_callV (pc := 41) (S := []) (As := [_, _]) k1 dX5_insert_41 ok_X5_move ml_X5_25 iv_X5_move ⟨by decide, by decide⟩ zret_v rfl ⟨rfl, by decide⟩ sh_27 ⟨by decide, rfl⟩ (Nat.le_of_ble_eq_true rfl) ?_
        refine P_iinc (pc := 44) (y := nI (e)) dX5_insert_44 rfl (pk_m1 (e)) (by decide) rfl ?_
        refine P_goto (pc := 47) (tgt := 28) dX5_insert_47 (by decide) ?_
        exact ih e K (by omega) (by omega) (by omega) (hK ▸ h.s (by omega))
  show ZP _ _ _ _ [some _, some _, some _, some _, some _, none] _ _ _ _
  refine P_aload_n (pc := 0) dX5_insert_0 rfl ?_
  refine P_geti (pc := 1) 5 3 (x := nI (m)) dX5_insert_1 fl_X5_21 sh_27 fi_5_3 (hS.1) ?_
  refine P_bipush (pc := 4) (x := nI 9) dX5_insert_4 (by decide) ?_
  refine P_icmp_geF (pc := 6) (tgt := 21) dX5_insert_6 (by decide) (by rw [nI_leI (by omega) (by omega)]; omega) ?_
  refine P_iload_n (pc := 9) dX5_insert_9 rfl ?_
  refine P_if_ltF (pc := 10) (tgt := 21) dX5_insert_10 (by decide) (nI_pos (by omega)) ?_
  refine P_iload_n (pc := 13) dX5_insert_13 rfl ?_
  refine P_aload_n (pc := 14) dX5_insert_14 rfl ?_
  refine P_geti (pc := 15) 5 3 (x := nI (m)) dX5_insert_15 fl_X5_21 sh_27 fi_5_3 (hS.1) ?_
  refine P_icmp_leT (pc := 18) (tgt := 22) dX5_insert_18 (by decide) (by rw [nI_leI (by omega) (by omega)]; omega) ?_
  refine P_aload_n (pc := 22) dX5_insert_22 rfl ?_
  refine P_geti (pc := 23) 5 3 (x := nI (m)) dX5_insert_23 fl_X5_21 sh_27 fi_5_3 (hS.1) ?_
  refine P_istore (pc := 26) dX5_insert_26 (by decide) rfl ?_
  exact loop (m + 1) m I (by omega) hk (by omega) zShU.rf
set_option maxRecDepth 20000 in
theorem c_remove_27 {l : Launch} {D : va_G} {tw : Nat} {I : AI} {m : Nat} {gc gt gn : Nat → Nat} (hS : CSg m gc gt gn I 27) {k : Nat} (hk : k < m) : ZP l D zm_X5_remove 0 (zent 3 [.ref 27, .int (nI k)]) [] I (zF tw) (fun v J G => v = none ∧ G = zF tw ∧ zGf 27 I J ∧ CSg (m - 1) (delN gc k) (delN gt k) (delN gn k) J 27) := by
  have hm9 := hS.2.1
  have loop : ∀ (d : Nat) (b : Nat) (J : AI), m - b < d → k ≤ b → b + 1 ≤ m → zShD I J 27 k (b + 1) → ZP l D zm_X5_remove 17 [some (.ref 27), some (.int (nI k)), some (.int (nI (b + 1)))] [] J (zF tw) (fun v J G => v = none ∧ G = zF tw ∧ zGf 27 I J ∧ CSg (m - 1) (delN gc k) (delN gt k) (delN gn k) J 27) := by
    intro d
    induction d with
    | zero =>
      intro b J hd
      exact absurd hd (by omega)
    | succ d ih =>
      intro b J hd hkb hbm h
      refine P_iload_n (pc := 17) dX5_remove_17 rfl ?_
      refine P_aload_n (pc := 18) dX5_remove_18 rfl ?_
      refine P_geti (pc := 19) 5 3 (x := nI (m)) dX5_remove_19 fl_X5_21 sh_27 fi_5_3 ((congrFun (h.1 27 (by decide) (by decide) (by decide)) 3).trans hS.1) ?_
      refine P_icmp_geN (pc := 22) (tgt := 39) dX5_remove_22 (by decide) (by omega) (by omega) (fun h22 => ?_) (fun h22 => ?_)
      · refine P_aload_n (pc := 39) dX5_remove_39 rfl ?_
        refine P_dup (pc := 40) dX5_remove_40 rfl ?_
        refine P_geti (pc := 41) 5 3 (x := nI (m)) dX5_remove_41 fl_X5_21 sh_27 fi_5_3 ((congrFun (h.1 27 (by decide) (by decide) (by decide)) 3).trans hS.1) ?_
        refine P_iconst (pc := 44) (x := nI 1) dX5_remove_44 (by decide) ?_
        refine P_isubN (pc := 45) dX5_remove_45 (by omega) ?_
        refine P_puti (pc := 46) 5 3 dX5_remove_46 fl_X5_21 sh_27 fp_5_3 rfl rfl ?_
        refine P_ret (pc := 49) dX5_remove_49 ?_
        have hb : b + 1 = m := by omega
        subst hb
        exact ⟨rfl, rfl, ((show zGf 27 I J from fun a h1 h2 h3 h4 => h.1 a h2 h3 h4).u (by decide)), h.del hS hk⟩
      · refine P_aload_n (pc := 25) dX5_remove_25 rfl ?_
        refine P_iload_n (pc := 26) dX5_remove_26 rfl ?_
        refine P_iload_n (pc := 27) dX5_remove_27 rfl ?_
        refine P_iconst (pc := 28) (x := nI 1) dX5_remove_28 (by decide) ?_
        refine P_isubN (pc := 29) dX5_remove_29 (by omega) ?_
        obtain ⟨_, K, _, k1, rfl, rfl, hK⟩ := c_move_27 (l := l) (D := D) (tw := tw) (I := J) (f := b + 1) (t := b + 1 - 1) (by omega) (by omega)
        refine P_callV (pc := 30) (S := []) (As := [_, _]) k1 dX5_remove_30 ok_X5_move ml_X5_25 iv_X5_move ⟨by decide, by decide⟩ zret_v rfl ⟨rfl, by decide⟩ sh_27 ⟨by decide, rfl⟩ (Nat.le_of_ble_eq_true rfl) ?_
        refine P_iincN (pc := 33) (c := 1) dX5_remove_33 rfl (by decide) (by decide) rfl ?_
        refine P_goto (pc := 36) (tgt := 17) dX5_remove_36 (by decide) ?_
        exact ih (b + 1) K (by omega) (by omega) (by omega) (hK ▸ h.s hkb)
  show ZP _ _ _ _ [some _, some _, none] _ _ _ _
  refine P_iload_n (pc := 0) dX5_remove_0 rfl ?_
  refine P_if_ltF (pc := 1) (tgt := 12) dX5_remove_1 (by decide) (nI_pos (by omega)) ?_
  refine P_iload_n (pc := 4) dX5_remove_4 rfl ?_
  refine P_aload_n (pc := 5) dX5_remove_5 rfl ?_
  refine P_geti (pc := 6) 5 3 (x := nI (m)) dX5_remove_6 fl_X5_21 sh_27 fi_5_3 (hS.1) ?_
  refine P_icmp_ltT (pc := 9) (tgt := 13) dX5_remove_9 (by decide) ((nI_ltI (by omega) (by omega)).mpr (by omega)) ?_
  refine P_iload_n (pc := 13) dX5_remove_13 rfl ?_
  refine P_iconst (pc := 14) (x := nI 1) dX5_remove_14 (by decide) ?_
  refine P_iaddN (pc := 15) dX5_remove_15 ?_
  refine P_istore_n (pc := 16) dX5_remove_16 (by decide) rfl ?_
  exact loop (m + 1) k I (by omega) (by omega) (by omega) zShD.rf
set_option maxRecDepth 20000 in
theorem c_move_58 {l : Launch} {D : va_G} {tw : Nat} {I : AI} {f t : Nat} (hf : f < 9) (ht : t < 9) : ZP l D zm_X5_move 0 (zent 3 [.ref 58, .int (nI f), .int (nI t)]) [] I (zF tw) (fun v J G => v = none ∧ G = zF tw ∧ J = zMv I 58 f t) := by
  show ZP _ _ _ _ [some _, some _, some _] _ _ _ _
  refine P_aload_n (pc := 0) dX5_move_0 rfl ?_
  refine P_getr (pc := 1) 5 0 dX5_move_1 fl_X5_11 sh_58 fr_5_0 F_58_0 ?_
  refine P_iload_n (pc := 4) dX5_move_4 rfl ?_
  refine P_aload_n (pc := 5) dX5_move_5 rfl ?_
  refine P_getr (pc := 6) 5 0 dX5_move_6 fl_X5_11 sh_58 fr_5_0 F_58_0 ?_
  refine P_iload_n (pc := 9) dX5_move_9 rfl ?_
  refine P_iald (pc := 10) (f) (x := I 59 f) dX5_move_10 sh_59 rfl (by omega) (by decide) (rfl) ?_
  refine P_iast (pc := 11) (t) dX5_move_11 sh_59 rfl (by omega) (by decide) ?_
  refine P_aload_n (pc := 12) dX5_move_12 rfl ?_
  refine P_getr (pc := 13) 5 1 dX5_move_13 fl_X5_15 sh_58 fr_5_1 F_58_1 ?_
  refine P_iload_n (pc := 16) dX5_move_16 rfl ?_
  refine P_aload_n (pc := 17) dX5_move_17 rfl ?_
  refine P_getr (pc := 18) 5 1 dX5_move_18 fl_X5_15 sh_58 fr_5_1 F_58_1 ?_
  refine P_iload_n (pc := 21) dX5_move_21 rfl ?_
  refine P_iald (pc := 22) (f) (x := I 60 f) dX5_move_22 sh_60 rfl (by omega) (by decide) (rfl) ?_
  refine P_iast (pc := 23) (t) dX5_move_23 sh_60 rfl (by omega) (by decide) ?_
  refine P_aload_n (pc := 24) dX5_move_24 rfl ?_
  refine P_getr (pc := 25) 5 2 dX5_move_25 fl_X5_18 sh_58 fr_5_2 F_58_2 ?_
  refine P_iload_n (pc := 28) dX5_move_28 rfl ?_
  refine P_aload_n (pc := 29) dX5_move_29 rfl ?_
  refine P_getr (pc := 30) 5 2 dX5_move_30 fl_X5_18 sh_58 fr_5_2 F_58_2 ?_
  refine P_iload_n (pc := 33) dX5_move_33 rfl ?_
  refine P_iald (pc := 34) (f) (x := I 61 f) dX5_move_34 sh_61 rfl (by omega) (by decide) (rfl) ?_
  refine P_iast (pc := 35) (t) dX5_move_35 sh_61 rfl (by omega) (by decide) ?_
  exact P_ret (pc := 36) dX5_move_36 (⟨rfl, rfl, rfl⟩)
set_option maxRecDepth 20000 in
theorem c_insert_58 {l : Launch} {D : va_G} {tw : Nat} {I : AI} {m : Nat} {gc gt gn : Nat → Nat} (hS : CSg m gc gt gn I 58) {k c a n : Nat} (hk : k ≤ m) (hm8 : m ≤ 8) (hc : c < 8) (ha : a < 8) (hn : n < 8) : ZP l D zm_X5_insert 0 (zent 6 [.ref 58, .int (nI k), .int (nI c), .int (nI a), .int (nI n)]) [] I (zF tw) (fun v J G => v = none ∧ G = zF tw ∧ zGf 58 I J ∧ CSg (m + 1) (insN gc k c) (insN gt k a) (insN gn k n) J 58) := by
  have loop : ∀ (d : Nat) (b : Nat) (J : AI), b < d → k ≤ b → b ≤ m → zShU I J 58 b m → ZP l D zm_X5_insert 28 [some (.ref 58), some (.int (nI k)), some (.int (nI c)), some (.int (nI a)), some (.int (nI n)), some (.int (nI b))] [] J (zF tw) (fun v J G => v = none ∧ G = zF tw ∧ zGf 58 I J ∧ CSg (m + 1) (insN gc k c) (insN gt k a) (insN gn k n) J 58) := by
    intro d
    induction d with
    | zero =>
      intro b J hd
      exact absurd hd (by omega)
    | succ d ih =>
      intro b J hd hkb hbm h
      by_cases hbk : b = k
      · have hbk2 : k = b := hbk.symm
        subst hbk2
        refine P_iload (pc := 28) dX5_insert_28 rfl ?_
        refine P_iload_n (pc := 30) dX5_insert_30 rfl ?_
        refine P_icmp_leT (pc := 31) (tgt := 50) dX5_insert_31 (by decide) (Int32.le_refl _) ?_
        refine P_aload_n (pc := 50) dX5_insert_50 rfl ?_
        refine P_getr (pc := 51) 5 0 dX5_insert_51 fl_X5_11 sh_58 fr_5_0 F_58_0 ?_
        refine P_iload_n (pc := 54) dX5_insert_54 rfl ?_
        refine P_iload_n (pc := 55) dX5_insert_55 rfl ?_
        refine P_iast (pc := 56) (k) dX5_insert_56 sh_59 rfl (by omega) (by decide) ?_
        refine P_aload_n (pc := 57) dX5_insert_57 rfl ?_
        refine P_getr (pc := 58) 5 1 dX5_insert_58 fl_X5_15 sh_58 fr_5_1 F_58_1 ?_
        refine P_iload_n (pc := 61) dX5_insert_61 rfl ?_
        refine P_iload_n (pc := 62) dX5_insert_62 rfl ?_
        refine P_iast (pc := 63) (k) dX5_insert_63 sh_60 rfl (by omega) (by decide) ?_
        refine P_aload_n (pc := 64) dX5_insert_64 rfl ?_
        refine P_getr (pc := 65) 5 2 dX5_insert_65 fl_X5_18 sh_58 fr_5_2 F_58_2 ?_
        refine P_iload_n (pc := 68) dX5_insert_68 rfl ?_
        refine P_iload (pc := 69) dX5_insert_69 rfl ?_
        refine P_iast (pc := 71) (k) dX5_insert_71 sh_61 rfl (by omega) (by decide) ?_
        refine P_aload_n (pc := 72) dX5_insert_72 rfl ?_
        refine P_dup (pc := 73) dX5_insert_73 rfl ?_
        refine P_geti (pc := 74) 5 3 (x := nI (m)) dX5_insert_74 fl_X5_21 sh_58 fi_5_3 ((congrFun (h.1 58 (by decide) (by decide) (by decide)) 3).trans hS.1) ?_
        refine P_iconst (pc := 77) (x := nI 1) dX5_insert_77 (by decide) ?_
        refine P_iaddN (pc := 78) dX5_insert_78 ?_
        refine P_puti (pc := 79) 5 3 dX5_insert_79 fl_X5_21 sh_58 fp_5_3 rfl rfl ?_
        exact P_ret (pc := 82) dX5_insert_82 (⟨rfl, rfl, (((( (show zGf 58 I J from fun a h1 h2 h3 h4 => h.1 a h2 h3 h4).u (by decide)).u (by decide)).u (by decide)).u (by decide)), h.ins hS hk hm8 hc ha hn⟩)
      · obtain ⟨e, rfl⟩ : ∃ e, b = e + 1 := ⟨b - 1, by omega⟩
        refine P_iload (pc := 28) dX5_insert_28 rfl ?_
        refine P_iload_n (pc := 30) dX5_insert_30 rfl ?_
        refine P_icmp_leF (pc := 31) (tgt := 50) dX5_insert_31 (by decide) (by rw [nI_leI (by omega) (by omega)]; omega) ?_
        refine P_aload_n (pc := 34) dX5_insert_34 rfl ?_
        refine P_iload (pc := 35) dX5_insert_35 rfl ?_
        refine P_iconst (pc := 37) (x := nI 1) dX5_insert_37 (by decide) ?_
        refine P_isubN (pc := 38) dX5_insert_38 (by omega) ?_
        refine P_iload (pc := 39) dX5_insert_39 rfl ?_
        obtain ⟨_, K, _, k1, rfl, rfl, hK⟩ := c_move_58 (l := l) (D := D) (tw := tw) (I := J) (f := e) (t := e + 1) (by omega) (by omega)
        refine P_callV (pc := 41) (S := []) (As := [_, _]) k1 dX5_insert_41 ok_X5_move ml_X5_25 iv_X5_move ⟨by decide, by decide⟩ zret_v rfl ⟨rfl, by decide⟩ sh_58 ⟨by decide, rfl⟩ (Nat.le_of_ble_eq_true rfl) ?_
        refine P_iinc (pc := 44) (y := nI (e)) dX5_insert_44 rfl (pk_m1 (e)) (by decide) rfl ?_
        refine P_goto (pc := 47) (tgt := 28) dX5_insert_47 (by decide) ?_
        exact ih e K (by omega) (by omega) (by omega) (hK ▸ h.s (by omega))
  show ZP _ _ _ _ [some _, some _, some _, some _, some _, none] _ _ _ _
  refine P_aload_n (pc := 0) dX5_insert_0 rfl ?_
  refine P_geti (pc := 1) 5 3 (x := nI (m)) dX5_insert_1 fl_X5_21 sh_58 fi_5_3 (hS.1) ?_
  refine P_bipush (pc := 4) (x := nI 9) dX5_insert_4 (by decide) ?_
  refine P_icmp_geF (pc := 6) (tgt := 21) dX5_insert_6 (by decide) (by rw [nI_leI (by omega) (by omega)]; omega) ?_
  refine P_iload_n (pc := 9) dX5_insert_9 rfl ?_
  refine P_if_ltF (pc := 10) (tgt := 21) dX5_insert_10 (by decide) (nI_pos (by omega)) ?_
  refine P_iload_n (pc := 13) dX5_insert_13 rfl ?_
  refine P_aload_n (pc := 14) dX5_insert_14 rfl ?_
  refine P_geti (pc := 15) 5 3 (x := nI (m)) dX5_insert_15 fl_X5_21 sh_58 fi_5_3 (hS.1) ?_
  refine P_icmp_leT (pc := 18) (tgt := 22) dX5_insert_18 (by decide) (by rw [nI_leI (by omega) (by omega)]; omega) ?_
  refine P_aload_n (pc := 22) dX5_insert_22 rfl ?_
  refine P_geti (pc := 23) 5 3 (x := nI (m)) dX5_insert_23 fl_X5_21 sh_58 fi_5_3 (hS.1) ?_
  refine P_istore (pc := 26) dX5_insert_26 (by decide) rfl ?_
  exact loop (m + 1) m I (by omega) hk (by omega) zShU.rf
set_option maxRecDepth 20000 in
theorem c_remove_58 {l : Launch} {D : va_G} {tw : Nat} {I : AI} {m : Nat} {gc gt gn : Nat → Nat} (hS : CSg m gc gt gn I 58) {k : Nat} (hk : k < m) : ZP l D zm_X5_remove 0 (zent 3 [.ref 58, .int (nI k)]) [] I (zF tw) (fun v J G => v = none ∧ G = zF tw ∧ zGf 58 I J ∧ CSg (m - 1) (delN gc k) (delN gt k) (delN gn k) J 58) := by
  have hm9 := hS.2.1
  have loop : ∀ (d : Nat) (b : Nat) (J : AI), m - b < d → k ≤ b → b + 1 ≤ m → zShD I J 58 k (b + 1) → ZP l D zm_X5_remove 17 [some (.ref 58), some (.int (nI k)), some (.int (nI (b + 1)))] [] J (zF tw) (fun v J G => v = none ∧ G = zF tw ∧ zGf 58 I J ∧ CSg (m - 1) (delN gc k) (delN gt k) (delN gn k) J 58) := by
    intro d
    induction d with
    | zero =>
      intro b J hd
      exact absurd hd (by omega)
    | succ d ih =>
      intro b J hd hkb hbm h
      refine P_iload_n (pc := 17) dX5_remove_17 rfl ?_
      refine P_aload_n (pc := 18) dX5_remove_18 rfl ?_
      refine P_geti (pc := 19) 5 3 (x := nI (m)) dX5_remove_19 fl_X5_21 sh_58 fi_5_3 ((congrFun (h.1 58 (by decide) (by decide) (by decide)) 3).trans hS.1) ?_
      refine P_icmp_geN (pc := 22) (tgt := 39) dX5_remove_22 (by decide) (by omega) (by omega) (fun h22 => ?_) (fun h22 => ?_)
      · refine P_aload_n (pc := 39) dX5_remove_39 rfl ?_
        refine P_dup (pc := 40) dX5_remove_40 rfl ?_
        refine P_geti (pc := 41) 5 3 (x := nI (m)) dX5_remove_41 fl_X5_21 sh_58 fi_5_3 ((congrFun (h.1 58 (by decide) (by decide) (by decide)) 3).trans hS.1) ?_
        refine P_iconst (pc := 44) (x := nI 1) dX5_remove_44 (by decide) ?_
        refine P_isubN (pc := 45) dX5_remove_45 (by omega) ?_
        refine P_puti (pc := 46) 5 3 dX5_remove_46 fl_X5_21 sh_58 fp_5_3 rfl rfl ?_
        refine P_ret (pc := 49) dX5_remove_49 ?_
        have hb : b + 1 = m := by omega
        subst hb
        exact ⟨rfl, rfl, ((show zGf 58 I J from fun a h1 h2 h3 h4 => h.1 a h2 h3 h4).u (by decide)), h.del hS hk⟩
      · refine P_aload_n (pc := 25) dX5_remove_25 rfl ?_
        refine P_iload_n (pc := 26) dX5_remove_26 rfl ?_
        refine P_iload_n (pc := 27) dX5_remove_27 rfl ?_
        refine P_iconst (pc := 28) (x := nI 1) dX5_remove_28 (by decide) ?_
        refine P_isubN (pc := 29) dX5_remove_29 (by omega) ?_
        obtain ⟨_, K, _, k1, rfl, rfl, hK⟩ := c_move_58 (l := l) (D := D) (tw := tw) (I := J) (f := b + 1) (t := b + 1 - 1) (by omega) (by omega)
        refine P_callV (pc := 30) (S := []) (As := [_, _]) k1 dX5_remove_30 ok_X5_move ml_X5_25 iv_X5_move ⟨by decide, by decide⟩ zret_v rfl ⟨rfl, by decide⟩ sh_58 ⟨by decide, rfl⟩ (Nat.le_of_ble_eq_true rfl) ?_
        refine P_iincN (pc := 33) (c := 1) dX5_remove_33 rfl (by decide) (by decide) rfl ?_
        refine P_goto (pc := 36) (tgt := 17) dX5_remove_36 (by decide) ?_
        exact ih (b + 1) K (by omega) (by omega) (by omega) (hK ▸ h.s hkb)
  show ZP _ _ _ _ [some _, some _, none] _ _ _ _
  refine P_iload_n (pc := 0) dX5_remove_0 rfl ?_
  refine P_if_ltF (pc := 1) (tgt := 12) dX5_remove_1 (by decide) (nI_pos (by omega)) ?_
  refine P_iload_n (pc := 4) dX5_remove_4 rfl ?_
  refine P_aload_n (pc := 5) dX5_remove_5 rfl ?_
  refine P_geti (pc := 6) 5 3 (x := nI (m)) dX5_remove_6 fl_X5_21 sh_58 fi_5_3 (hS.1) ?_
  refine P_icmp_ltT (pc := 9) (tgt := 13) dX5_remove_9 (by decide) ((nI_ltI (by omega) (by omega)).mpr (by omega)) ?_
  refine P_iload_n (pc := 13) dX5_remove_13 rfl ?_
  refine P_iconst (pc := 14) (x := nI 1) dX5_remove_14 (by decide) ?_
  refine P_iaddN (pc := 15) dX5_remove_15 ?_
  refine P_istore_n (pc := 16) dX5_remove_16 (by decide) rfl ?_
  exact loop (m + 1) k I (by omega) (by omega) (by omega) zShD.rf
set_option maxRecDepth 20000 in
theorem c_move_70 {l : Launch} {D : va_G} {tw : Nat} {I : AI} {f t : Nat} (hf : f < 9) (ht : t < 9) : ZP l D zm_X5_move 0 (zent 3 [.ref 70, .int (nI f), .int (nI t)]) [] I (zF tw) (fun v J G => v = none ∧ G = zF tw ∧ J = zMv I 70 f t) := by
  show ZP _ _ _ _ [some _, some _, some _] _ _ _ _
  refine P_aload_n (pc := 0) dX5_move_0 rfl ?_
  refine P_getr (pc := 1) 5 0 dX5_move_1 fl_X5_11 sh_70 fr_5_0 F_70_0 ?_
  refine P_iload_n (pc := 4) dX5_move_4 rfl ?_
  refine P_aload_n (pc := 5) dX5_move_5 rfl ?_
  refine P_getr (pc := 6) 5 0 dX5_move_6 fl_X5_11 sh_70 fr_5_0 F_70_0 ?_
  refine P_iload_n (pc := 9) dX5_move_9 rfl ?_
  refine P_iald (pc := 10) (f) (x := I 71 f) dX5_move_10 sh_71 rfl (by omega) (by decide) (rfl) ?_
  refine P_iast (pc := 11) (t) dX5_move_11 sh_71 rfl (by omega) (by decide) ?_
  refine P_aload_n (pc := 12) dX5_move_12 rfl ?_
  refine P_getr (pc := 13) 5 1 dX5_move_13 fl_X5_15 sh_70 fr_5_1 F_70_1 ?_
  refine P_iload_n (pc := 16) dX5_move_16 rfl ?_
  refine P_aload_n (pc := 17) dX5_move_17 rfl ?_
  refine P_getr (pc := 18) 5 1 dX5_move_18 fl_X5_15 sh_70 fr_5_1 F_70_1 ?_
  refine P_iload_n (pc := 21) dX5_move_21 rfl ?_
  refine P_iald (pc := 22) (f) (x := I 72 f) dX5_move_22 sh_72 rfl (by omega) (by decide) (rfl) ?_
  refine P_iast (pc := 23) (t) dX5_move_23 sh_72 rfl (by omega) (by decide) ?_
  refine P_aload_n (pc := 24) dX5_move_24 rfl ?_
  refine P_getr (pc := 25) 5 2 dX5_move_25 fl_X5_18 sh_70 fr_5_2 F_70_2 ?_
  refine P_iload_n (pc := 28) dX5_move_28 rfl ?_
  refine P_aload_n (pc := 29) dX5_move_29 rfl ?_
  refine P_getr (pc := 30) 5 2 dX5_move_30 fl_X5_18 sh_70 fr_5_2 F_70_2 ?_
  refine P_iload_n (pc := 33) dX5_move_33 rfl ?_
  refine P_iald (pc := 34) (f) (x := I 73 f) dX5_move_34 sh_73 rfl (by omega) (by decide) (rfl) ?_
  refine P_iast (pc := 35) (t) dX5_move_35 sh_73 rfl (by omega) (by decide) ?_
  exact P_ret (pc := 36) dX5_move_36 (⟨rfl, rfl, rfl⟩)
set_option maxRecDepth 20000 in
theorem c_insert_70 {l : Launch} {D : va_G} {tw : Nat} {I : AI} {m : Nat} {gc gt gn : Nat → Nat} (hS : CSg m gc gt gn I 70) {k c a n : Nat} (hk : k ≤ m) (hm8 : m ≤ 8) (hc : c < 8) (ha : a < 8) (hn : n < 8) : ZP l D zm_X5_insert 0 (zent 6 [.ref 70, .int (nI k), .int (nI c), .int (nI a), .int (nI n)]) [] I (zF tw) (fun v J G => v = none ∧ G = zF tw ∧ zGf 70 I J ∧ CSg (m + 1) (insN gc k c) (insN gt k a) (insN gn k n) J 70) := by
  have loop : ∀ (d : Nat) (b : Nat) (J : AI), b < d → k ≤ b → b ≤ m → zShU I J 70 b m → ZP l D zm_X5_insert 28 [some (.ref 70), some (.int (nI k)), some (.int (nI c)), some (.int (nI a)), some (.int (nI n)), some (.int (nI b))] [] J (zF tw) (fun v J G => v = none ∧ G = zF tw ∧ zGf 70 I J ∧ CSg (m + 1) (insN gc k c) (insN gt k a) (insN gn k n) J 70) := by
    intro d
    induction d with
    | zero =>
      intro b J hd
      exact absurd hd (by omega)
    | succ d ih =>
      intro b J hd hkb hbm h
      by_cases hbk : b = k
      · have hbk2 : k = b := hbk.symm
        subst hbk2
        refine P_iload (pc := 28) dX5_insert_28 rfl ?_
        refine P_iload_n (pc := 30) dX5_insert_30 rfl ?_
        refine P_icmp_leT (pc := 31) (tgt := 50) dX5_insert_31 (by decide) (Int32.le_refl _) ?_
        refine P_aload_n (pc := 50) dX5_insert_50 rfl ?_
        refine P_getr (pc := 51) 5 0 dX5_insert_51 fl_X5_11 sh_70 fr_5_0 F_70_0 ?_
        refine P_iload_n (pc := 54) dX5_insert_54 rfl ?_
        refine P_iload_n (pc := 55) dX5_insert_55 rfl ?_
        refine P_iast (pc := 56) (k) dX5_insert_56 sh_71 rfl (by omega) (by decide) ?_
        refine P_aload_n (pc := 57) dX5_insert_57 rfl ?_
        refine P_getr (pc := 58) 5 1 dX5_insert_58 fl_X5_15 sh_70 fr_5_1 F_70_1 ?_
        refine P_iload_n (pc := 61) dX5_insert_61 rfl ?_
        refine P_iload_n (pc := 62) dX5_insert_62 rfl ?_
        refine P_iast (pc := 63) (k) dX5_insert_63 sh_72 rfl (by omega) (by decide) ?_
        refine P_aload_n (pc := 64) dX5_insert_64 rfl ?_
        refine P_getr (pc := 65) 5 2 dX5_insert_65 fl_X5_18 sh_70 fr_5_2 F_70_2 ?_
        refine P_iload_n (pc := 68) dX5_insert_68 rfl ?_
        refine P_iload (pc := 69) dX5_insert_69 rfl ?_
        refine P_iast (pc := 71) (k) dX5_insert_71 sh_73 rfl (by omega) (by decide) ?_
        refine P_aload_n (pc := 72) dX5_insert_72 rfl ?_
        refine P_dup (pc := 73) dX5_insert_73 rfl ?_
        refine P_geti (pc := 74) 5 3 (x := nI (m)) dX5_insert_74 fl_X5_21 sh_70 fi_5_3 ((congrFun (h.1 70 (by decide) (by decide) (by decide)) 3).trans hS.1) ?_
        refine P_iconst (pc := 77) (x := nI 1) dX5_insert_77 (by decide) ?_
        refine P_iaddN (pc := 78) dX5_insert_78 ?_
        refine P_puti (pc := 79) 5 3 dX5_insert_79 fl_X5_21 sh_70 fp_5_3 rfl rfl ?_
        exact P_ret (pc := 82) dX5_insert_82 (⟨rfl, rfl, (((( (show zGf 70 I J from fun a h1 h2 h3 h4 => h.1 a h2 h3 h4).u (by decide)).u (by decide)).u (by decide)).u (by decide)), h.ins hS hk hm8 hc ha hn⟩)
      · obtain ⟨e, rfl⟩ : ∃ e, b = e + 1 := ⟨b - 1, by omega⟩
        refine P_iload (pc := 28) dX5_insert_28 rfl ?_
        refine P_iload_n (pc := 30) dX5_insert_30 rfl ?_
        refine P_icmp_leF (pc := 31) (tgt := 50) dX5_insert_31 (by decide) (by rw [nI_leI (by omega) (by omega)]; omega) ?_
        refine P_aload_n (pc := 34) dX5_insert_34 rfl ?_
        refine P_iload (pc := 35) dX5_insert_35 rfl ?_
        refine P_iconst (pc := 37) (x := nI 1) dX5_insert_37 (by decide) ?_
        refine P_isubN (pc := 38) dX5_insert_38 (by omega) ?_
        refine P_iload (pc := 39) dX5_insert_39 rfl ?_
        obtain ⟨_, K, _, k1, rfl, rfl, hK⟩ := c_move_70 (l := l) (D := D) (tw := tw) (I := J) (f := e) (t := e + 1) (by omega) (by omega)
        refine P_callV (pc := 41) (S := []) (As := [_, _]) k1 dX5_insert_41 ok_X5_move ml_X5_25 iv_X5_move ⟨by decide, by decide⟩ zret_v rfl ⟨rfl, by decide⟩ sh_70 ⟨by decide, rfl⟩ (Nat.le_of_ble_eq_true rfl) ?_
        refine P_iinc (pc := 44) (y := nI (e)) dX5_insert_44 rfl (pk_m1 (e)) (by decide) rfl ?_
        refine P_goto (pc := 47) (tgt := 28) dX5_insert_47 (by decide) ?_
        exact ih e K (by omega) (by omega) (by omega) (hK ▸ h.s (by omega))
  show ZP _ _ _ _ [some _, some _, some _, some _, some _, none] _ _ _ _
  refine P_aload_n (pc := 0) dX5_insert_0 rfl ?_
  refine P_geti (pc := 1) 5 3 (x := nI (m)) dX5_insert_1 fl_X5_21 sh_70 fi_5_3 (hS.1) ?_
  refine P_bipush (pc := 4) (x := nI 9) dX5_insert_4 (by decide) ?_
  refine P_icmp_geF (pc := 6) (tgt := 21) dX5_insert_6 (by decide) (by rw [nI_leI (by omega) (by omega)]; omega) ?_
  refine P_iload_n (pc := 9) dX5_insert_9 rfl ?_
  refine P_if_ltF (pc := 10) (tgt := 21) dX5_insert_10 (by decide) (nI_pos (by omega)) ?_
  refine P_iload_n (pc := 13) dX5_insert_13 rfl ?_
  refine P_aload_n (pc := 14) dX5_insert_14 rfl ?_
  refine P_geti (pc := 15) 5 3 (x := nI (m)) dX5_insert_15 fl_X5_21 sh_70 fi_5_3 (hS.1) ?_
  refine P_icmp_leT (pc := 18) (tgt := 22) dX5_insert_18 (by decide) (by rw [nI_leI (by omega) (by omega)]; omega) ?_
  refine P_aload_n (pc := 22) dX5_insert_22 rfl ?_
  refine P_geti (pc := 23) 5 3 (x := nI (m)) dX5_insert_23 fl_X5_21 sh_70 fi_5_3 (hS.1) ?_
  refine P_istore (pc := 26) dX5_insert_26 (by decide) rfl ?_
  exact loop (m + 1) m I (by omega) hk (by omega) zShU.rf
set_option maxRecDepth 20000 in
theorem c_remove_70 {l : Launch} {D : va_G} {tw : Nat} {I : AI} {m : Nat} {gc gt gn : Nat → Nat} (hS : CSg m gc gt gn I 70) {k : Nat} (hk : k < m) : ZP l D zm_X5_remove 0 (zent 3 [.ref 70, .int (nI k)]) [] I (zF tw) (fun v J G => v = none ∧ G = zF tw ∧ zGf 70 I J ∧ CSg (m - 1) (delN gc k) (delN gt k) (delN gn k) J 70) := by
  have hm9 := hS.2.1
  have loop : ∀ (d : Nat) (b : Nat) (J : AI), m - b < d → k ≤ b → b + 1 ≤ m → zShD I J 70 k (b + 1) → ZP l D zm_X5_remove 17 [some (.ref 70), some (.int (nI k)), some (.int (nI (b + 1)))] [] J (zF tw) (fun v J G => v = none ∧ G = zF tw ∧ zGf 70 I J ∧ CSg (m - 1) (delN gc k) (delN gt k) (delN gn k) J 70) := by
    intro d
    induction d with
    | zero =>
      intro b J hd
      exact absurd hd (by omega)
    | succ d ih =>
      intro b J hd hkb hbm h
      refine P_iload_n (pc := 17) dX5_remove_17 rfl ?_
      refine P_aload_n (pc := 18) dX5_remove_18 rfl ?_
      refine P_geti (pc := 19) 5 3 (x := nI (m)) dX5_remove_19 fl_X5_21 sh_70 fi_5_3 ((congrFun (h.1 70 (by decide) (by decide) (by decide)) 3).trans hS.1) ?_
      refine P_icmp_geN (pc := 22) (tgt := 39) dX5_remove_22 (by decide) (by omega) (by omega) (fun h22 => ?_) (fun h22 => ?_)
      · refine P_aload_n (pc := 39) dX5_remove_39 rfl ?_
        refine P_dup (pc := 40) dX5_remove_40 rfl ?_
        refine P_geti (pc := 41) 5 3 (x := nI (m)) dX5_remove_41 fl_X5_21 sh_70 fi_5_3 ((congrFun (h.1 70 (by decide) (by decide) (by decide)) 3).trans hS.1) ?_
        refine P_iconst (pc := 44) (x := nI 1) dX5_remove_44 (by decide) ?_
        refine P_isubN (pc := 45) dX5_remove_45 (by omega) ?_
        refine P_puti (pc := 46) 5 3 dX5_remove_46 fl_X5_21 sh_70 fp_5_3 rfl rfl ?_
        refine P_ret (pc := 49) dX5_remove_49 ?_
        have hb : b + 1 = m := by omega
        subst hb
        exact ⟨rfl, rfl, ((show zGf 70 I J from fun a h1 h2 h3 h4 => h.1 a h2 h3 h4).u (by decide)), h.del hS hk⟩
      · refine P_aload_n (pc := 25) dX5_remove_25 rfl ?_
        refine P_iload_n (pc := 26) dX5_remove_26 rfl ?_
        refine P_iload_n (pc := 27) dX5_remove_27 rfl ?_
        refine P_iconst (pc := 28) (x := nI 1) dX5_remove_28 (by decide) ?_
        refine P_isubN (pc := 29) dX5_remove_29 (by omega) ?_
        obtain ⟨_, K, _, k1, rfl, rfl, hK⟩ := c_move_70 (l := l) (D := D) (tw := tw) (I := J) (f := b + 1) (t := b + 1 - 1) (by omega) (by omega)
        refine P_callV (pc := 30) (S := []) (As := [_, _]) k1 dX5_remove_30 ok_X5_move ml_X5_25 iv_X5_move ⟨by decide, by decide⟩ zret_v rfl ⟨rfl, by decide⟩ sh_70 ⟨by decide, rfl⟩ (Nat.le_of_ble_eq_true rfl) ?_
        refine P_iincN (pc := 33) (c := 1) dX5_remove_33 rfl (by decide) (by decide) rfl ?_
        refine P_goto (pc := 36) (tgt := 17) dX5_remove_36 (by decide) ?_
        exact ih (b + 1) K (by omega) (by omega) (by omega) (hK ▸ h.s hkb)
  show ZP _ _ _ _ [some _, some _, none] _ _ _ _
  refine P_iload_n (pc := 0) dX5_remove_0 rfl ?_
  refine P_if_ltF (pc := 1) (tgt := 12) dX5_remove_1 (by decide) (nI_pos (by omega)) ?_
  refine P_iload_n (pc := 4) dX5_remove_4 rfl ?_
  refine P_aload_n (pc := 5) dX5_remove_5 rfl ?_
  refine P_geti (pc := 6) 5 3 (x := nI (m)) dX5_remove_6 fl_X5_21 sh_70 fi_5_3 (hS.1) ?_
  refine P_icmp_ltT (pc := 9) (tgt := 13) dX5_remove_9 (by decide) ((nI_ltI (by omega) (by omega)).mpr (by omega)) ?_
  refine P_iload_n (pc := 13) dX5_remove_13 rfl ?_
  refine P_iconst (pc := 14) (x := nI 1) dX5_remove_14 (by decide) ?_
  refine P_iaddN (pc := 15) dX5_remove_15 ?_
  refine P_istore_n (pc := 16) dX5_remove_16 (by decide) rfl ?_
  exact loop (m + 1) k I (by omega) (by omega) (by omega) zShD.rf
set_option maxRecDepth 20000 in
theorem c_copyFrom_70_27 {l : Launch} {D : va_G} {tw : Nat} {I : AI} {m : Nat} {gc gt gn : Nat → Nat} (hS : CSg m gc gt gn I 27) : ZP l D zm_X5_copyFrom 0 (zent 2 [.ref 70, .ref 27]) [] I (zF tw) (fun v J G => v = none ∧ G = zF tw ∧ zGf 70 I J ∧ CSg m gc gt gn J 70) := by
  have hm9 := hS.2.1
  show ZP _ _ _ _ [some _, some _] _ _ _ _
  refine P_aload_n (pc := 0) dX5_copyFrom_0 rfl ?_
  refine P_getr (pc := 1) 5 0 dX5_copyFrom_1 fl_X5_11 sh_27 fr_5_0 F_27_0 ?_
  refine P_iconst (pc := 4) (x := nI 0) dX5_copyFrom_4 (by decide) ?_
  refine P_aload_n (pc := 5) dX5_copyFrom_5 rfl ?_
  refine P_getr (pc := 6) 5 0 dX5_copyFrom_6 fl_X5_11 sh_70 fr_5_0 F_70_0 ?_
  refine P_iconst (pc := 9) (x := nI 0) dX5_copyFrom_9 (by decide) ?_
  refine P_bipush (pc := 10) (x := nI 9) dX5_copyFrom_10 (by decide) ?_
  refine P_copyi (pc := 12) (9) dX5_copyFrom_12 al_X5_29 ac_nat ac_st ac_in sh_28 sh_71 rfl rfl rfl (by decide) (by decide) (by decide) (by decide) (by decide) ?_
  refine P_aload_n (pc := 15) dX5_copyFrom_15 rfl ?_
  refine P_getr (pc := 16) 5 1 dX5_copyFrom_16 fl_X5_15 sh_27 fr_5_1 F_27_1 ?_
  refine P_iconst (pc := 19) (x := nI 0) dX5_copyFrom_19 (by decide) ?_
  refine P_aload_n (pc := 20) dX5_copyFrom_20 rfl ?_
  refine P_getr (pc := 21) 5 1 dX5_copyFrom_21 fl_X5_15 sh_70 fr_5_1 F_70_1 ?_
  refine P_iconst (pc := 24) (x := nI 0) dX5_copyFrom_24 (by decide) ?_
  refine P_bipush (pc := 25) (x := nI 9) dX5_copyFrom_25 (by decide) ?_
  refine P_copyi (pc := 27) (9) dX5_copyFrom_27 al_X5_29 ac_nat ac_st ac_in sh_29 sh_72 rfl rfl rfl (by decide) (by decide) (by decide) (by decide) (by decide) ?_
  refine P_aload_n (pc := 30) dX5_copyFrom_30 rfl ?_
  refine P_getr (pc := 31) 5 2 dX5_copyFrom_31 fl_X5_18 sh_27 fr_5_2 F_27_2 ?_
  refine P_iconst (pc := 34) (x := nI 0) dX5_copyFrom_34 (by decide) ?_
  refine P_aload_n (pc := 35) dX5_copyFrom_35 rfl ?_
  refine P_getr (pc := 36) 5 2 dX5_copyFrom_36 fl_X5_18 sh_70 fr_5_2 F_70_2 ?_
  refine P_iconst (pc := 39) (x := nI 0) dX5_copyFrom_39 (by decide) ?_
  refine P_bipush (pc := 40) (x := nI 9) dX5_copyFrom_40 (by decide) ?_
  refine P_copyi (pc := 42) (9) dX5_copyFrom_42 al_X5_29 ac_nat ac_st ac_in sh_30 sh_73 rfl rfl rfl (by decide) (by decide) (by decide) (by decide) (by decide) ?_
  refine P_aload_n (pc := 45) dX5_copyFrom_45 rfl ?_
  refine P_aload_n (pc := 46) dX5_copyFrom_46 rfl ?_
  refine P_geti (pc := 47) 5 3 (x := nI (m)) dX5_copyFrom_47 fl_X5_21 sh_27 fi_5_3 (hS.1) ?_
  refine P_puti (pc := 50) 5 3 dX5_copyFrom_50 fl_X5_21 sh_70 fp_5_3 rfl rfl ?_
  exact P_ret (pc := 53) dX5_copyFrom_53 (⟨rfl, rfl, (((zGf.rf.v (by decide)).v (by decide)).v (by decide)).u (by decide), rfl, hS.2.1, fun k hk => ⟨⟨(va_cpy_i (by omega)).trans (hS.2.2 k hk).1.1, (va_cpy_i (by omega)).trans (hS.2.2 k hk).1.2.1, (va_cpy_i (by omega)).trans (hS.2.2 k hk).1.2.2⟩, (hS.2.2 k hk).2⟩⟩)
set_option maxRecDepth 20000 in
theorem c_copyFrom_70_58 {l : Launch} {D : va_G} {tw : Nat} {I : AI} {m : Nat} {gc gt gn : Nat → Nat} (hS : CSg m gc gt gn I 58) : ZP l D zm_X5_copyFrom 0 (zent 2 [.ref 70, .ref 58]) [] I (zF tw) (fun v J G => v = none ∧ G = zF tw ∧ zGf 70 I J ∧ CSg m gc gt gn J 70) := by
  have hm9 := hS.2.1
  show ZP _ _ _ _ [some _, some _] _ _ _ _
  refine P_aload_n (pc := 0) dX5_copyFrom_0 rfl ?_
  refine P_getr (pc := 1) 5 0 dX5_copyFrom_1 fl_X5_11 sh_58 fr_5_0 F_58_0 ?_
  refine P_iconst (pc := 4) (x := nI 0) dX5_copyFrom_4 (by decide) ?_
  refine P_aload_n (pc := 5) dX5_copyFrom_5 rfl ?_
  refine P_getr (pc := 6) 5 0 dX5_copyFrom_6 fl_X5_11 sh_70 fr_5_0 F_70_0 ?_
  refine P_iconst (pc := 9) (x := nI 0) dX5_copyFrom_9 (by decide) ?_
  refine P_bipush (pc := 10) (x := nI 9) dX5_copyFrom_10 (by decide) ?_
  refine P_copyi (pc := 12) (9) dX5_copyFrom_12 al_X5_29 ac_nat ac_st ac_in sh_59 sh_71 rfl rfl rfl (by decide) (by decide) (by decide) (by decide) (by decide) ?_
  refine P_aload_n (pc := 15) dX5_copyFrom_15 rfl ?_
  refine P_getr (pc := 16) 5 1 dX5_copyFrom_16 fl_X5_15 sh_58 fr_5_1 F_58_1 ?_
  refine P_iconst (pc := 19) (x := nI 0) dX5_copyFrom_19 (by decide) ?_
  refine P_aload_n (pc := 20) dX5_copyFrom_20 rfl ?_
  refine P_getr (pc := 21) 5 1 dX5_copyFrom_21 fl_X5_15 sh_70 fr_5_1 F_70_1 ?_
  refine P_iconst (pc := 24) (x := nI 0) dX5_copyFrom_24 (by decide) ?_
  refine P_bipush (pc := 25) (x := nI 9) dX5_copyFrom_25 (by decide) ?_
  refine P_copyi (pc := 27) (9) dX5_copyFrom_27 al_X5_29 ac_nat ac_st ac_in sh_60 sh_72 rfl rfl rfl (by decide) (by decide) (by decide) (by decide) (by decide) ?_
  refine P_aload_n (pc := 30) dX5_copyFrom_30 rfl ?_
  refine P_getr (pc := 31) 5 2 dX5_copyFrom_31 fl_X5_18 sh_58 fr_5_2 F_58_2 ?_
  refine P_iconst (pc := 34) (x := nI 0) dX5_copyFrom_34 (by decide) ?_
  refine P_aload_n (pc := 35) dX5_copyFrom_35 rfl ?_
  refine P_getr (pc := 36) 5 2 dX5_copyFrom_36 fl_X5_18 sh_70 fr_5_2 F_70_2 ?_
  refine P_iconst (pc := 39) (x := nI 0) dX5_copyFrom_39 (by decide) ?_
  refine P_bipush (pc := 40) (x := nI 9) dX5_copyFrom_40 (by decide) ?_
  refine P_copyi (pc := 42) (9) dX5_copyFrom_42 al_X5_29 ac_nat ac_st ac_in sh_61 sh_73 rfl rfl rfl (by decide) (by decide) (by decide) (by decide) (by decide) ?_
  refine P_aload_n (pc := 45) dX5_copyFrom_45 rfl ?_
  refine P_aload_n (pc := 46) dX5_copyFrom_46 rfl ?_
  refine P_geti (pc := 47) 5 3 (x := nI (m)) dX5_copyFrom_47 fl_X5_21 sh_58 fi_5_3 (hS.1) ?_
  refine P_puti (pc := 50) 5 3 dX5_copyFrom_50 fl_X5_21 sh_70 fp_5_3 rfl rfl ?_
  exact P_ret (pc := 53) dX5_copyFrom_53 (⟨rfl, rfl, (((zGf.rf.v (by decide)).v (by decide)).v (by decide)).u (by decide), rfl, hS.2.1, fun k hk => ⟨⟨(va_cpy_i (by omega)).trans (hS.2.2 k hk).1.1, (va_cpy_i (by omega)).trans (hS.2.2 k hk).1.2.1, (va_cpy_i (by omega)).trans (hS.2.2 k hk).1.2.2⟩, (hS.2.2 k hk).2⟩⟩)
set_option maxRecDepth 20000 in
theorem c_copyFrom_85_27 {l : Launch} {D : va_G} {tw : Nat} {I : AI} {m : Nat} {gc gt gn : Nat → Nat} (hS : CSg m gc gt gn I 27) : ZP l D zm_X5_copyFrom 0 (zent 2 [.ref 85, .ref 27]) [] I (zF tw) (fun v J G => v = none ∧ G = zF tw ∧ zGf 85 I J ∧ CSg m gc gt gn J 85) := by
  have hm9 := hS.2.1
  show ZP _ _ _ _ [some _, some _] _ _ _ _
  refine P_aload_n (pc := 0) dX5_copyFrom_0 rfl ?_
  refine P_getr (pc := 1) 5 0 dX5_copyFrom_1 fl_X5_11 sh_27 fr_5_0 F_27_0 ?_
  refine P_iconst (pc := 4) (x := nI 0) dX5_copyFrom_4 (by decide) ?_
  refine P_aload_n (pc := 5) dX5_copyFrom_5 rfl ?_
  refine P_getr (pc := 6) 5 0 dX5_copyFrom_6 fl_X5_11 sh_85 fr_5_0 F_85_0 ?_
  refine P_iconst (pc := 9) (x := nI 0) dX5_copyFrom_9 (by decide) ?_
  refine P_bipush (pc := 10) (x := nI 9) dX5_copyFrom_10 (by decide) ?_
  refine P_copyi (pc := 12) (9) dX5_copyFrom_12 al_X5_29 ac_nat ac_st ac_in sh_28 sh_86 rfl rfl rfl (by decide) (by decide) (by decide) (by decide) (by decide) ?_
  refine P_aload_n (pc := 15) dX5_copyFrom_15 rfl ?_
  refine P_getr (pc := 16) 5 1 dX5_copyFrom_16 fl_X5_15 sh_27 fr_5_1 F_27_1 ?_
  refine P_iconst (pc := 19) (x := nI 0) dX5_copyFrom_19 (by decide) ?_
  refine P_aload_n (pc := 20) dX5_copyFrom_20 rfl ?_
  refine P_getr (pc := 21) 5 1 dX5_copyFrom_21 fl_X5_15 sh_85 fr_5_1 F_85_1 ?_
  refine P_iconst (pc := 24) (x := nI 0) dX5_copyFrom_24 (by decide) ?_
  refine P_bipush (pc := 25) (x := nI 9) dX5_copyFrom_25 (by decide) ?_
  refine P_copyi (pc := 27) (9) dX5_copyFrom_27 al_X5_29 ac_nat ac_st ac_in sh_29 sh_87 rfl rfl rfl (by decide) (by decide) (by decide) (by decide) (by decide) ?_
  refine P_aload_n (pc := 30) dX5_copyFrom_30 rfl ?_
  refine P_getr (pc := 31) 5 2 dX5_copyFrom_31 fl_X5_18 sh_27 fr_5_2 F_27_2 ?_
  refine P_iconst (pc := 34) (x := nI 0) dX5_copyFrom_34 (by decide) ?_
  refine P_aload_n (pc := 35) dX5_copyFrom_35 rfl ?_
  refine P_getr (pc := 36) 5 2 dX5_copyFrom_36 fl_X5_18 sh_85 fr_5_2 F_85_2 ?_
  refine P_iconst (pc := 39) (x := nI 0) dX5_copyFrom_39 (by decide) ?_
  refine P_bipush (pc := 40) (x := nI 9) dX5_copyFrom_40 (by decide) ?_
  refine P_copyi (pc := 42) (9) dX5_copyFrom_42 al_X5_29 ac_nat ac_st ac_in sh_30 sh_88 rfl rfl rfl (by decide) (by decide) (by decide) (by decide) (by decide) ?_
  refine P_aload_n (pc := 45) dX5_copyFrom_45 rfl ?_
  refine P_aload_n (pc := 46) dX5_copyFrom_46 rfl ?_
  refine P_geti (pc := 47) 5 3 (x := nI (m)) dX5_copyFrom_47 fl_X5_21 sh_27 fi_5_3 (hS.1) ?_
  refine P_puti (pc := 50) 5 3 dX5_copyFrom_50 fl_X5_21 sh_85 fp_5_3 rfl rfl ?_
  exact P_ret (pc := 53) dX5_copyFrom_53 (⟨rfl, rfl, (((zGf.rf.v (by decide)).v (by decide)).v (by decide)).u (by decide), rfl, hS.2.1, fun k hk => ⟨⟨(va_cpy_i (by omega)).trans (hS.2.2 k hk).1.1, (va_cpy_i (by omega)).trans (hS.2.2 k hk).1.2.1, (va_cpy_i (by omega)).trans (hS.2.2 k hk).1.2.2⟩, (hS.2.2 k hk).2⟩⟩)
set_option maxRecDepth 20000 in
theorem c_copyFrom_85_58 {l : Launch} {D : va_G} {tw : Nat} {I : AI} {m : Nat} {gc gt gn : Nat → Nat} (hS : CSg m gc gt gn I 58) : ZP l D zm_X5_copyFrom 0 (zent 2 [.ref 85, .ref 58]) [] I (zF tw) (fun v J G => v = none ∧ G = zF tw ∧ zGf 85 I J ∧ CSg m gc gt gn J 85) := by
  have hm9 := hS.2.1
  show ZP _ _ _ _ [some _, some _] _ _ _ _
  refine P_aload_n (pc := 0) dX5_copyFrom_0 rfl ?_
  refine P_getr (pc := 1) 5 0 dX5_copyFrom_1 fl_X5_11 sh_58 fr_5_0 F_58_0 ?_
  refine P_iconst (pc := 4) (x := nI 0) dX5_copyFrom_4 (by decide) ?_
  refine P_aload_n (pc := 5) dX5_copyFrom_5 rfl ?_
  refine P_getr (pc := 6) 5 0 dX5_copyFrom_6 fl_X5_11 sh_85 fr_5_0 F_85_0 ?_
  refine P_iconst (pc := 9) (x := nI 0) dX5_copyFrom_9 (by decide) ?_
  refine P_bipush (pc := 10) (x := nI 9) dX5_copyFrom_10 (by decide) ?_
  refine P_copyi (pc := 12) (9) dX5_copyFrom_12 al_X5_29 ac_nat ac_st ac_in sh_59 sh_86 rfl rfl rfl (by decide) (by decide) (by decide) (by decide) (by decide) ?_
  refine P_aload_n (pc := 15) dX5_copyFrom_15 rfl ?_
  refine P_getr (pc := 16) 5 1 dX5_copyFrom_16 fl_X5_15 sh_58 fr_5_1 F_58_1 ?_
  refine P_iconst (pc := 19) (x := nI 0) dX5_copyFrom_19 (by decide) ?_
  refine P_aload_n (pc := 20) dX5_copyFrom_20 rfl ?_
  refine P_getr (pc := 21) 5 1 dX5_copyFrom_21 fl_X5_15 sh_85 fr_5_1 F_85_1 ?_
  refine P_iconst (pc := 24) (x := nI 0) dX5_copyFrom_24 (by decide) ?_
  refine P_bipush (pc := 25) (x := nI 9) dX5_copyFrom_25 (by decide) ?_
  refine P_copyi (pc := 27) (9) dX5_copyFrom_27 al_X5_29 ac_nat ac_st ac_in sh_60 sh_87 rfl rfl rfl (by decide) (by decide) (by decide) (by decide) (by decide) ?_
  refine P_aload_n (pc := 30) dX5_copyFrom_30 rfl ?_
  refine P_getr (pc := 31) 5 2 dX5_copyFrom_31 fl_X5_18 sh_58 fr_5_2 F_58_2 ?_
  refine P_iconst (pc := 34) (x := nI 0) dX5_copyFrom_34 (by decide) ?_
  refine P_aload_n (pc := 35) dX5_copyFrom_35 rfl ?_
  refine P_getr (pc := 36) 5 2 dX5_copyFrom_36 fl_X5_18 sh_85 fr_5_2 F_85_2 ?_
  refine P_iconst (pc := 39) (x := nI 0) dX5_copyFrom_39 (by decide) ?_
  refine P_bipush (pc := 40) (x := nI 9) dX5_copyFrom_40 (by decide) ?_
  refine P_copyi (pc := 42) (9) dX5_copyFrom_42 al_X5_29 ac_nat ac_st ac_in sh_61 sh_88 rfl rfl rfl (by decide) (by decide) (by decide) (by decide) (by decide) ?_
  refine P_aload_n (pc := 45) dX5_copyFrom_45 rfl ?_
  refine P_aload_n (pc := 46) dX5_copyFrom_46 rfl ?_
  refine P_geti (pc := 47) 5 3 (x := nI (m)) dX5_copyFrom_47 fl_X5_21 sh_58 fi_5_3 (hS.1) ?_
  refine P_puti (pc := 50) 5 3 dX5_copyFrom_50 fl_X5_21 sh_85 fp_5_3 rfl rfl ?_
  exact P_ret (pc := 53) dX5_copyFrom_53 (⟨rfl, rfl, (((zGf.rf.v (by decide)).v (by decide)).v (by decide)).u (by decide), rfl, hS.2.1, fun k hk => ⟨⟨(va_cpy_i (by omega)).trans (hS.2.2 k hk).1.1, (va_cpy_i (by omega)).trans (hS.2.2 k hk).1.2.1, (va_cpy_i (by omega)).trans (hS.2.2 k hk).1.2.2⟩, (hS.2.2 k hk).2⟩⟩)
set_option maxRecDepth 20000 in
theorem c_copyFrom_89_27 {l : Launch} {D : va_G} {tw : Nat} {I : AI} {m : Nat} {gc gt gn : Nat → Nat} (hS : CSg m gc gt gn I 27) : ZP l D zm_X5_copyFrom 0 (zent 2 [.ref 89, .ref 27]) [] I (zF tw) (fun v J G => v = none ∧ G = zF tw ∧ zGf 89 I J ∧ CSg m gc gt gn J 89) := by
  have hm9 := hS.2.1
  show ZP _ _ _ _ [some _, some _] _ _ _ _
  refine P_aload_n (pc := 0) dX5_copyFrom_0 rfl ?_
  refine P_getr (pc := 1) 5 0 dX5_copyFrom_1 fl_X5_11 sh_27 fr_5_0 F_27_0 ?_
  refine P_iconst (pc := 4) (x := nI 0) dX5_copyFrom_4 (by decide) ?_
  refine P_aload_n (pc := 5) dX5_copyFrom_5 rfl ?_
  refine P_getr (pc := 6) 5 0 dX5_copyFrom_6 fl_X5_11 sh_89 fr_5_0 F_89_0 ?_
  refine P_iconst (pc := 9) (x := nI 0) dX5_copyFrom_9 (by decide) ?_
  refine P_bipush (pc := 10) (x := nI 9) dX5_copyFrom_10 (by decide) ?_
  refine P_copyi (pc := 12) (9) dX5_copyFrom_12 al_X5_29 ac_nat ac_st ac_in sh_28 sh_90 rfl rfl rfl (by decide) (by decide) (by decide) (by decide) (by decide) ?_
  refine P_aload_n (pc := 15) dX5_copyFrom_15 rfl ?_
  refine P_getr (pc := 16) 5 1 dX5_copyFrom_16 fl_X5_15 sh_27 fr_5_1 F_27_1 ?_
  refine P_iconst (pc := 19) (x := nI 0) dX5_copyFrom_19 (by decide) ?_
  refine P_aload_n (pc := 20) dX5_copyFrom_20 rfl ?_
  refine P_getr (pc := 21) 5 1 dX5_copyFrom_21 fl_X5_15 sh_89 fr_5_1 F_89_1 ?_
  refine P_iconst (pc := 24) (x := nI 0) dX5_copyFrom_24 (by decide) ?_
  refine P_bipush (pc := 25) (x := nI 9) dX5_copyFrom_25 (by decide) ?_
  refine P_copyi (pc := 27) (9) dX5_copyFrom_27 al_X5_29 ac_nat ac_st ac_in sh_29 sh_91 rfl rfl rfl (by decide) (by decide) (by decide) (by decide) (by decide) ?_
  refine P_aload_n (pc := 30) dX5_copyFrom_30 rfl ?_
  refine P_getr (pc := 31) 5 2 dX5_copyFrom_31 fl_X5_18 sh_27 fr_5_2 F_27_2 ?_
  refine P_iconst (pc := 34) (x := nI 0) dX5_copyFrom_34 (by decide) ?_
  refine P_aload_n (pc := 35) dX5_copyFrom_35 rfl ?_
  refine P_getr (pc := 36) 5 2 dX5_copyFrom_36 fl_X5_18 sh_89 fr_5_2 F_89_2 ?_
  refine P_iconst (pc := 39) (x := nI 0) dX5_copyFrom_39 (by decide) ?_
  refine P_bipush (pc := 40) (x := nI 9) dX5_copyFrom_40 (by decide) ?_
  refine P_copyi (pc := 42) (9) dX5_copyFrom_42 al_X5_29 ac_nat ac_st ac_in sh_30 sh_92 rfl rfl rfl (by decide) (by decide) (by decide) (by decide) (by decide) ?_
  refine P_aload_n (pc := 45) dX5_copyFrom_45 rfl ?_
  refine P_aload_n (pc := 46) dX5_copyFrom_46 rfl ?_
  refine P_geti (pc := 47) 5 3 (x := nI (m)) dX5_copyFrom_47 fl_X5_21 sh_27 fi_5_3 (hS.1) ?_
  refine P_puti (pc := 50) 5 3 dX5_copyFrom_50 fl_X5_21 sh_89 fp_5_3 rfl rfl ?_
  exact P_ret (pc := 53) dX5_copyFrom_53 (⟨rfl, rfl, (((zGf.rf.v (by decide)).v (by decide)).v (by decide)).u (by decide), rfl, hS.2.1, fun k hk => ⟨⟨(va_cpy_i (by omega)).trans (hS.2.2 k hk).1.1, (va_cpy_i (by omega)).trans (hS.2.2 k hk).1.2.1, (va_cpy_i (by omega)).trans (hS.2.2 k hk).1.2.2⟩, (hS.2.2 k hk).2⟩⟩)
set_option maxRecDepth 20000 in
theorem c_copyFrom_89_58 {l : Launch} {D : va_G} {tw : Nat} {I : AI} {m : Nat} {gc gt gn : Nat → Nat} (hS : CSg m gc gt gn I 58) : ZP l D zm_X5_copyFrom 0 (zent 2 [.ref 89, .ref 58]) [] I (zF tw) (fun v J G => v = none ∧ G = zF tw ∧ zGf 89 I J ∧ CSg m gc gt gn J 89) := by
  have hm9 := hS.2.1
  show ZP _ _ _ _ [some _, some _] _ _ _ _
  refine P_aload_n (pc := 0) dX5_copyFrom_0 rfl ?_
  refine P_getr (pc := 1) 5 0 dX5_copyFrom_1 fl_X5_11 sh_58 fr_5_0 F_58_0 ?_
  refine P_iconst (pc := 4) (x := nI 0) dX5_copyFrom_4 (by decide) ?_
  refine P_aload_n (pc := 5) dX5_copyFrom_5 rfl ?_
  refine P_getr (pc := 6) 5 0 dX5_copyFrom_6 fl_X5_11 sh_89 fr_5_0 F_89_0 ?_
  refine P_iconst (pc := 9) (x := nI 0) dX5_copyFrom_9 (by decide) ?_
  refine P_bipush (pc := 10) (x := nI 9) dX5_copyFrom_10 (by decide) ?_
  refine P_copyi (pc := 12) (9) dX5_copyFrom_12 al_X5_29 ac_nat ac_st ac_in sh_59 sh_90 rfl rfl rfl (by decide) (by decide) (by decide) (by decide) (by decide) ?_
  refine P_aload_n (pc := 15) dX5_copyFrom_15 rfl ?_
  refine P_getr (pc := 16) 5 1 dX5_copyFrom_16 fl_X5_15 sh_58 fr_5_1 F_58_1 ?_
  refine P_iconst (pc := 19) (x := nI 0) dX5_copyFrom_19 (by decide) ?_
  refine P_aload_n (pc := 20) dX5_copyFrom_20 rfl ?_
  refine P_getr (pc := 21) 5 1 dX5_copyFrom_21 fl_X5_15 sh_89 fr_5_1 F_89_1 ?_
  refine P_iconst (pc := 24) (x := nI 0) dX5_copyFrom_24 (by decide) ?_
  refine P_bipush (pc := 25) (x := nI 9) dX5_copyFrom_25 (by decide) ?_
  refine P_copyi (pc := 27) (9) dX5_copyFrom_27 al_X5_29 ac_nat ac_st ac_in sh_60 sh_91 rfl rfl rfl (by decide) (by decide) (by decide) (by decide) (by decide) ?_
  refine P_aload_n (pc := 30) dX5_copyFrom_30 rfl ?_
  refine P_getr (pc := 31) 5 2 dX5_copyFrom_31 fl_X5_18 sh_58 fr_5_2 F_58_2 ?_
  refine P_iconst (pc := 34) (x := nI 0) dX5_copyFrom_34 (by decide) ?_
  refine P_aload_n (pc := 35) dX5_copyFrom_35 rfl ?_
  refine P_getr (pc := 36) 5 2 dX5_copyFrom_36 fl_X5_18 sh_89 fr_5_2 F_89_2 ?_
  refine P_iconst (pc := 39) (x := nI 0) dX5_copyFrom_39 (by decide) ?_
  refine P_bipush (pc := 40) (x := nI 9) dX5_copyFrom_40 (by decide) ?_
  refine P_copyi (pc := 42) (9) dX5_copyFrom_42 al_X5_29 ac_nat ac_st ac_in sh_61 sh_92 rfl rfl rfl (by decide) (by decide) (by decide) (by decide) (by decide) ?_
  refine P_aload_n (pc := 45) dX5_copyFrom_45 rfl ?_
  refine P_aload_n (pc := 46) dX5_copyFrom_46 rfl ?_
  refine P_geti (pc := 47) 5 3 (x := nI (m)) dX5_copyFrom_47 fl_X5_21 sh_58 fi_5_3 (hS.1) ?_
  refine P_puti (pc := 50) 5 3 dX5_copyFrom_50 fl_X5_21 sh_89 fp_5_3 rfl rfl ?_
  exact P_ret (pc := 53) dX5_copyFrom_53 (⟨rfl, rfl, (((zGf.rf.v (by decide)).v (by decide)).v (by decide)).u (by decide), rfl, hS.2.1, fun k hk => ⟨⟨(va_cpy_i (by omega)).trans (hS.2.2 k hk).1.1, (va_cpy_i (by omega)).trans (hS.2.2 k hk).1.2.1, (va_cpy_i (by omega)).trans (hS.2.2 k hk).1.2.2⟩, (hS.2.2 k hk).2⟩⟩)
set_option maxRecDepth 20000 in
theorem c_copyFrom_27_85 {l : Launch} {D : va_G} {tw : Nat} {I : AI} {m : Nat} {gc gt gn : Nat → Nat} (hS : CSg m gc gt gn I 85) : ZP l D zm_X5_copyFrom 0 (zent 2 [.ref 27, .ref 85]) [] I (zF tw) (fun v J G => v = none ∧ G = zF tw ∧ zGf 27 I J ∧ CSg m gc gt gn J 27) := by
  have hm9 := hS.2.1
  show ZP _ _ _ _ [some _, some _] _ _ _ _
  refine P_aload_n (pc := 0) dX5_copyFrom_0 rfl ?_
  refine P_getr (pc := 1) 5 0 dX5_copyFrom_1 fl_X5_11 sh_85 fr_5_0 F_85_0 ?_
  refine P_iconst (pc := 4) (x := nI 0) dX5_copyFrom_4 (by decide) ?_
  refine P_aload_n (pc := 5) dX5_copyFrom_5 rfl ?_
  refine P_getr (pc := 6) 5 0 dX5_copyFrom_6 fl_X5_11 sh_27 fr_5_0 F_27_0 ?_
  refine P_iconst (pc := 9) (x := nI 0) dX5_copyFrom_9 (by decide) ?_
  refine P_bipush (pc := 10) (x := nI 9) dX5_copyFrom_10 (by decide) ?_
  refine P_copyi (pc := 12) (9) dX5_copyFrom_12 al_X5_29 ac_nat ac_st ac_in sh_86 sh_28 rfl rfl rfl (by decide) (by decide) (by decide) (by decide) (by decide) ?_
  refine P_aload_n (pc := 15) dX5_copyFrom_15 rfl ?_
  refine P_getr (pc := 16) 5 1 dX5_copyFrom_16 fl_X5_15 sh_85 fr_5_1 F_85_1 ?_
  refine P_iconst (pc := 19) (x := nI 0) dX5_copyFrom_19 (by decide) ?_
  refine P_aload_n (pc := 20) dX5_copyFrom_20 rfl ?_
  refine P_getr (pc := 21) 5 1 dX5_copyFrom_21 fl_X5_15 sh_27 fr_5_1 F_27_1 ?_
  refine P_iconst (pc := 24) (x := nI 0) dX5_copyFrom_24 (by decide) ?_
  refine P_bipush (pc := 25) (x := nI 9) dX5_copyFrom_25 (by decide) ?_
  refine P_copyi (pc := 27) (9) dX5_copyFrom_27 al_X5_29 ac_nat ac_st ac_in sh_87 sh_29 rfl rfl rfl (by decide) (by decide) (by decide) (by decide) (by decide) ?_
  refine P_aload_n (pc := 30) dX5_copyFrom_30 rfl ?_
  refine P_getr (pc := 31) 5 2 dX5_copyFrom_31 fl_X5_18 sh_85 fr_5_2 F_85_2 ?_
  refine P_iconst (pc := 34) (x := nI 0) dX5_copyFrom_34 (by decide) ?_
  refine P_aload_n (pc := 35) dX5_copyFrom_35 rfl ?_
  refine P_getr (pc := 36) 5 2 dX5_copyFrom_36 fl_X5_18 sh_27 fr_5_2 F_27_2 ?_
  refine P_iconst (pc := 39) (x := nI 0) dX5_copyFrom_39 (by decide) ?_
  refine P_bipush (pc := 40) (x := nI 9) dX5_copyFrom_40 (by decide) ?_
  refine P_copyi (pc := 42) (9) dX5_copyFrom_42 al_X5_29 ac_nat ac_st ac_in sh_88 sh_30 rfl rfl rfl (by decide) (by decide) (by decide) (by decide) (by decide) ?_
  refine P_aload_n (pc := 45) dX5_copyFrom_45 rfl ?_
  refine P_aload_n (pc := 46) dX5_copyFrom_46 rfl ?_
  refine P_geti (pc := 47) 5 3 (x := nI (m)) dX5_copyFrom_47 fl_X5_21 sh_85 fi_5_3 (hS.1) ?_
  refine P_puti (pc := 50) 5 3 dX5_copyFrom_50 fl_X5_21 sh_27 fp_5_3 rfl rfl ?_
  exact P_ret (pc := 53) dX5_copyFrom_53 (⟨rfl, rfl, (((zGf.rf.v (by decide)).v (by decide)).v (by decide)).u (by decide), rfl, hS.2.1, fun k hk => ⟨⟨(va_cpy_i (by omega)).trans (hS.2.2 k hk).1.1, (va_cpy_i (by omega)).trans (hS.2.2 k hk).1.2.1, (va_cpy_i (by omega)).trans (hS.2.2 k hk).1.2.2⟩, (hS.2.2 k hk).2⟩⟩)
set_option maxRecDepth 20000 in
theorem c_copyFrom_27_89 {l : Launch} {D : va_G} {tw : Nat} {I : AI} {m : Nat} {gc gt gn : Nat → Nat} (hS : CSg m gc gt gn I 89) : ZP l D zm_X5_copyFrom 0 (zent 2 [.ref 27, .ref 89]) [] I (zF tw) (fun v J G => v = none ∧ G = zF tw ∧ zGf 27 I J ∧ CSg m gc gt gn J 27) := by
  have hm9 := hS.2.1
  show ZP _ _ _ _ [some _, some _] _ _ _ _
  refine P_aload_n (pc := 0) dX5_copyFrom_0 rfl ?_
  refine P_getr (pc := 1) 5 0 dX5_copyFrom_1 fl_X5_11 sh_89 fr_5_0 F_89_0 ?_
  refine P_iconst (pc := 4) (x := nI 0) dX5_copyFrom_4 (by decide) ?_
  refine P_aload_n (pc := 5) dX5_copyFrom_5 rfl ?_
  refine P_getr (pc := 6) 5 0 dX5_copyFrom_6 fl_X5_11 sh_27 fr_5_0 F_27_0 ?_
  refine P_iconst (pc := 9) (x := nI 0) dX5_copyFrom_9 (by decide) ?_
  refine P_bipush (pc := 10) (x := nI 9) dX5_copyFrom_10 (by decide) ?_
  refine P_copyi (pc := 12) (9) dX5_copyFrom_12 al_X5_29 ac_nat ac_st ac_in sh_90 sh_28 rfl rfl rfl (by decide) (by decide) (by decide) (by decide) (by decide) ?_
  refine P_aload_n (pc := 15) dX5_copyFrom_15 rfl ?_
  refine P_getr (pc := 16) 5 1 dX5_copyFrom_16 fl_X5_15 sh_89 fr_5_1 F_89_1 ?_
  refine P_iconst (pc := 19) (x := nI 0) dX5_copyFrom_19 (by decide) ?_
  refine P_aload_n (pc := 20) dX5_copyFrom_20 rfl ?_
  refine P_getr (pc := 21) 5 1 dX5_copyFrom_21 fl_X5_15 sh_27 fr_5_1 F_27_1 ?_
  refine P_iconst (pc := 24) (x := nI 0) dX5_copyFrom_24 (by decide) ?_
  refine P_bipush (pc := 25) (x := nI 9) dX5_copyFrom_25 (by decide) ?_
  refine P_copyi (pc := 27) (9) dX5_copyFrom_27 al_X5_29 ac_nat ac_st ac_in sh_91 sh_29 rfl rfl rfl (by decide) (by decide) (by decide) (by decide) (by decide) ?_
  refine P_aload_n (pc := 30) dX5_copyFrom_30 rfl ?_
  refine P_getr (pc := 31) 5 2 dX5_copyFrom_31 fl_X5_18 sh_89 fr_5_2 F_89_2 ?_
  refine P_iconst (pc := 34) (x := nI 0) dX5_copyFrom_34 (by decide) ?_
  refine P_aload_n (pc := 35) dX5_copyFrom_35 rfl ?_
  refine P_getr (pc := 36) 5 2 dX5_copyFrom_36 fl_X5_18 sh_27 fr_5_2 F_27_2 ?_
  refine P_iconst (pc := 39) (x := nI 0) dX5_copyFrom_39 (by decide) ?_
  refine P_bipush (pc := 40) (x := nI 9) dX5_copyFrom_40 (by decide) ?_
  refine P_copyi (pc := 42) (9) dX5_copyFrom_42 al_X5_29 ac_nat ac_st ac_in sh_92 sh_30 rfl rfl rfl (by decide) (by decide) (by decide) (by decide) (by decide) ?_
  refine P_aload_n (pc := 45) dX5_copyFrom_45 rfl ?_
  refine P_aload_n (pc := 46) dX5_copyFrom_46 rfl ?_
  refine P_geti (pc := 47) 5 3 (x := nI (m)) dX5_copyFrom_47 fl_X5_21 sh_89 fi_5_3 (hS.1) ?_
  refine P_puti (pc := 50) 5 3 dX5_copyFrom_50 fl_X5_21 sh_27 fp_5_3 rfl rfl ?_
  exact P_ret (pc := 53) dX5_copyFrom_53 (⟨rfl, rfl, (((zGf.rf.v (by decide)).v (by decide)).v (by decide)).u (by decide), rfl, hS.2.1, fun k hk => ⟨⟨(va_cpy_i (by omega)).trans (hS.2.2 k hk).1.1, (va_cpy_i (by omega)).trans (hS.2.2 k hk).1.2.1, (va_cpy_i (by omega)).trans (hS.2.2 k hk).1.2.2⟩, (hS.2.2 k hk).2⟩⟩)
set_option maxRecDepth 20000 in
theorem c_copyFrom_58_85 {l : Launch} {D : va_G} {tw : Nat} {I : AI} {m : Nat} {gc gt gn : Nat → Nat} (hS : CSg m gc gt gn I 85) : ZP l D zm_X5_copyFrom 0 (zent 2 [.ref 58, .ref 85]) [] I (zF tw) (fun v J G => v = none ∧ G = zF tw ∧ zGf 58 I J ∧ CSg m gc gt gn J 58) := by
  have hm9 := hS.2.1
  show ZP _ _ _ _ [some _, some _] _ _ _ _
  refine P_aload_n (pc := 0) dX5_copyFrom_0 rfl ?_
  refine P_getr (pc := 1) 5 0 dX5_copyFrom_1 fl_X5_11 sh_85 fr_5_0 F_85_0 ?_
  refine P_iconst (pc := 4) (x := nI 0) dX5_copyFrom_4 (by decide) ?_
  refine P_aload_n (pc := 5) dX5_copyFrom_5 rfl ?_
  refine P_getr (pc := 6) 5 0 dX5_copyFrom_6 fl_X5_11 sh_58 fr_5_0 F_58_0 ?_
  refine P_iconst (pc := 9) (x := nI 0) dX5_copyFrom_9 (by decide) ?_
  refine P_bipush (pc := 10) (x := nI 9) dX5_copyFrom_10 (by decide) ?_
  refine P_copyi (pc := 12) (9) dX5_copyFrom_12 al_X5_29 ac_nat ac_st ac_in sh_86 sh_59 rfl rfl rfl (by decide) (by decide) (by decide) (by decide) (by decide) ?_
  refine P_aload_n (pc := 15) dX5_copyFrom_15 rfl ?_
  refine P_getr (pc := 16) 5 1 dX5_copyFrom_16 fl_X5_15 sh_85 fr_5_1 F_85_1 ?_
  refine P_iconst (pc := 19) (x := nI 0) dX5_copyFrom_19 (by decide) ?_
  refine P_aload_n (pc := 20) dX5_copyFrom_20 rfl ?_
  refine P_getr (pc := 21) 5 1 dX5_copyFrom_21 fl_X5_15 sh_58 fr_5_1 F_58_1 ?_
  refine P_iconst (pc := 24) (x := nI 0) dX5_copyFrom_24 (by decide) ?_
  refine P_bipush (pc := 25) (x := nI 9) dX5_copyFrom_25 (by decide) ?_
  refine P_copyi (pc := 27) (9) dX5_copyFrom_27 al_X5_29 ac_nat ac_st ac_in sh_87 sh_60 rfl rfl rfl (by decide) (by decide) (by decide) (by decide) (by decide) ?_
  refine P_aload_n (pc := 30) dX5_copyFrom_30 rfl ?_
  refine P_getr (pc := 31) 5 2 dX5_copyFrom_31 fl_X5_18 sh_85 fr_5_2 F_85_2 ?_
  refine P_iconst (pc := 34) (x := nI 0) dX5_copyFrom_34 (by decide) ?_
  refine P_aload_n (pc := 35) dX5_copyFrom_35 rfl ?_
  refine P_getr (pc := 36) 5 2 dX5_copyFrom_36 fl_X5_18 sh_58 fr_5_2 F_58_2 ?_
  refine P_iconst (pc := 39) (x := nI 0) dX5_copyFrom_39 (by decide) ?_
  refine P_bipush (pc := 40) (x := nI 9) dX5_copyFrom_40 (by decide) ?_
  refine P_copyi (pc := 42) (9) dX5_copyFrom_42 al_X5_29 ac_nat ac_st ac_in sh_88 sh_61 rfl rfl rfl (by decide) (by decide) (by decide) (by decide) (by decide) ?_
  refine P_aload_n (pc := 45) dX5_copyFrom_45 rfl ?_
  refine P_aload_n (pc := 46) dX5_copyFrom_46 rfl ?_
  refine P_geti (pc := 47) 5 3 (x := nI (m)) dX5_copyFrom_47 fl_X5_21 sh_85 fi_5_3 (hS.1) ?_
  refine P_puti (pc := 50) 5 3 dX5_copyFrom_50 fl_X5_21 sh_58 fp_5_3 rfl rfl ?_
  exact P_ret (pc := 53) dX5_copyFrom_53 (⟨rfl, rfl, (((zGf.rf.v (by decide)).v (by decide)).v (by decide)).u (by decide), rfl, hS.2.1, fun k hk => ⟨⟨(va_cpy_i (by omega)).trans (hS.2.2 k hk).1.1, (va_cpy_i (by omega)).trans (hS.2.2 k hk).1.2.1, (va_cpy_i (by omega)).trans (hS.2.2 k hk).1.2.2⟩, (hS.2.2 k hk).2⟩⟩)
set_option maxRecDepth 20000 in
theorem c_copyFrom_58_89 {l : Launch} {D : va_G} {tw : Nat} {I : AI} {m : Nat} {gc gt gn : Nat → Nat} (hS : CSg m gc gt gn I 89) : ZP l D zm_X5_copyFrom 0 (zent 2 [.ref 58, .ref 89]) [] I (zF tw) (fun v J G => v = none ∧ G = zF tw ∧ zGf 58 I J ∧ CSg m gc gt gn J 58) := by
  have hm9 := hS.2.1
  show ZP _ _ _ _ [some _, some _] _ _ _ _
  refine P_aload_n (pc := 0) dX5_copyFrom_0 rfl ?_
  refine P_getr (pc := 1) 5 0 dX5_copyFrom_1 fl_X5_11 sh_89 fr_5_0 F_89_0 ?_
  refine P_iconst (pc := 4) (x := nI 0) dX5_copyFrom_4 (by decide) ?_
  refine P_aload_n (pc := 5) dX5_copyFrom_5 rfl ?_
  refine P_getr (pc := 6) 5 0 dX5_copyFrom_6 fl_X5_11 sh_58 fr_5_0 F_58_0 ?_
  refine P_iconst (pc := 9) (x := nI 0) dX5_copyFrom_9 (by decide) ?_
  refine P_bipush (pc := 10) (x := nI 9) dX5_copyFrom_10 (by decide) ?_
  refine P_copyi (pc := 12) (9) dX5_copyFrom_12 al_X5_29 ac_nat ac_st ac_in sh_90 sh_59 rfl rfl rfl (by decide) (by decide) (by decide) (by decide) (by decide) ?_
  refine P_aload_n (pc := 15) dX5_copyFrom_15 rfl ?_
  refine P_getr (pc := 16) 5 1 dX5_copyFrom_16 fl_X5_15 sh_89 fr_5_1 F_89_1 ?_
  refine P_iconst (pc := 19) (x := nI 0) dX5_copyFrom_19 (by decide) ?_
  refine P_aload_n (pc := 20) dX5_copyFrom_20 rfl ?_
  refine P_getr (pc := 21) 5 1 dX5_copyFrom_21 fl_X5_15 sh_58 fr_5_1 F_58_1 ?_
  refine P_iconst (pc := 24) (x := nI 0) dX5_copyFrom_24 (by decide) ?_
  refine P_bipush (pc := 25) (x := nI 9) dX5_copyFrom_25 (by decide) ?_
  refine P_copyi (pc := 27) (9) dX5_copyFrom_27 al_X5_29 ac_nat ac_st ac_in sh_91 sh_60 rfl rfl rfl (by decide) (by decide) (by decide) (by decide) (by decide) ?_
  refine P_aload_n (pc := 30) dX5_copyFrom_30 rfl ?_
  refine P_getr (pc := 31) 5 2 dX5_copyFrom_31 fl_X5_18 sh_89 fr_5_2 F_89_2 ?_
  refine P_iconst (pc := 34) (x := nI 0) dX5_copyFrom_34 (by decide) ?_
  refine P_aload_n (pc := 35) dX5_copyFrom_35 rfl ?_
  refine P_getr (pc := 36) 5 2 dX5_copyFrom_36 fl_X5_18 sh_58 fr_5_2 F_58_2 ?_
  refine P_iconst (pc := 39) (x := nI 0) dX5_copyFrom_39 (by decide) ?_
  refine P_bipush (pc := 40) (x := nI 9) dX5_copyFrom_40 (by decide) ?_
  refine P_copyi (pc := 42) (9) dX5_copyFrom_42 al_X5_29 ac_nat ac_st ac_in sh_92 sh_61 rfl rfl rfl (by decide) (by decide) (by decide) (by decide) (by decide) ?_
  refine P_aload_n (pc := 45) dX5_copyFrom_45 rfl ?_
  refine P_aload_n (pc := 46) dX5_copyFrom_46 rfl ?_
  refine P_geti (pc := 47) 5 3 (x := nI (m)) dX5_copyFrom_47 fl_X5_21 sh_89 fi_5_3 (hS.1) ?_
  refine P_puti (pc := 50) 5 3 dX5_copyFrom_50 fl_X5_21 sh_58 fp_5_3 rfl rfl ?_
  exact P_ret (pc := 53) dX5_copyFrom_53 (⟨rfl, rfl, (((zGf.rf.v (by decide)).v (by decide)).v (by decide)).u (by decide), rfl, hS.2.1, fun k hk => ⟨⟨(va_cpy_i (by omega)).trans (hS.2.2 k hk).1.1, (va_cpy_i (by omega)).trans (hS.2.2 k hk).1.2.1, (va_cpy_i (by omega)).trans (hS.2.2 k hk).1.2.2⟩, (hS.2.2 k hk).2⟩⟩)
