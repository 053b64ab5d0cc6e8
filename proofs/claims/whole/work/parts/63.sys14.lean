set_option maxRecDepth 20000 in
theorem c_isCorner11_5 {l : Launch} {D : va_G} {I : AI} {x : Int32} {n : Nat} (hn : I 6 0 = nI n) (hb : n < 2 ^ 31) : ZP l D zm_X11_isCorner 0 (zent 2 [.ref 0, .int x]) [] I (zF 5) (fun v J G => v = some (zb (zix x n)) ∧ I = J ∧ G = zF 5) := by
  show ZP _ _ _ _ [some _, some _] _ _ _ _
  refine P_iload_n (pc := 0) dX11_isCorner_0 rfl ?_
  refine P_aload_n (pc := 1) dX11_isCorner_1 rfl ?_
  refine P_getr (pc := 2) 11 2 dX11_isCorner_2 fl_X11_26 sh_0 fr_11_2 F_0_2 ?_
  refine P_getr (pc := 5) 8 0 dX11_isCorner_5 fl_X11_125 sh_5 fr_8_0 F_5_0 ?_
  refine P_geti (pc := 8) 6 0 (x := nI (n)) dX11_isCorner_8 fl_X11_143 sh_6 fi_6_0 (hn) ?_
  obtain ⟨_, _, _, kw1, rfl, rfl, rfl⟩ := c_isWithin (l := l) (D := D) (tw := 5) (I := I) (x := x) (n := (n)) (by omega)
  refine P_callS (pc := 11) (S := []) (As := [_, _]) kw1 dX11_isCorner_11 ok_X11_isWithin ml_X11_180 is_X11_isWithin ⟨by decide, by decide⟩ (zret_b (zix x (n))) rfl ⟨rfl, by decide⟩ (Nat.le_of_ble_eq_true rfl) ?_
  exact P_iret (pc := 14) dX11_isCorner_14 (⟨rfl, rfl, rfl⟩)
set_option maxRecDepth 20000 in
theorem c_isSign11_5 {l : Launch} {D : va_G} {I : AI} {x : Int32} {n : Nat} (hn : I 27 3 = nI n) (hb : n < 2 ^ 31) : ZP l D zm_X11_isSign 0 (zent 2 [.ref 0, .int x]) [] I (zF 5) (fun v J G => v = some (zb (zix x n)) ∧ I = J ∧ G = zF 5) := by
  show ZP _ _ _ _ [some _, some _] _ _ _ _
  refine P_iload_n (pc := 0) dX11_isSign_0 rfl ?_
  refine P_aload_n (pc := 1) dX11_isSign_1 rfl ?_
  refine P_getr (pc := 2) 11 2 dX11_isSign_2 fl_X11_26 sh_0 fr_11_2 F_0_2 ?_
  refine P_getr (pc := 5) 8 1 dX11_isSign_5 fl_X11_156 sh_5 fr_8_1 F_5_1 ?_
  refine P_geti (pc := 8) 5 3 (x := nI (n)) dX11_isSign_8 fl_X11_214 sh_27 fi_5_3 (hn) ?_
  obtain ⟨_, _, _, kw1, rfl, rfl, rfl⟩ := c_isWithin (l := l) (D := D) (tw := 5) (I := I) (x := x) (n := (n)) (by omega)
  refine P_callS (pc := 11) (S := []) (As := [_, _]) kw1 dX11_isSign_11 ok_X11_isWithin ml_X11_180 is_X11_isWithin ⟨by decide, by decide⟩ (zret_b (zix x (n))) rfl ⟨rfl, by decide⟩ (Nat.le_of_ble_eq_true rfl) ?_
  exact P_iret (pc := 14) dX11_isSign_14 (⟨rfl, rfl, rfl⟩)
set_option maxRecDepth 20000 in
theorem c_isWalker11_5 {l : Launch} {D : va_G} {I : AI} {x : Int32} {n : Nat} (hn : I 31 4 = nI n) (hb : n < 2 ^ 31) : ZP l D zm_X11_isWalker 0 (zent 2 [.ref 0, .int x]) [] I (zF 5) (fun v J G => v = some (zb (zix x n)) ∧ I = J ∧ G = zF 5) := by
  show ZP _ _ _ _ [some _, some _] _ _ _ _
  refine P_iload_n (pc := 0) dX11_isWalker_0 rfl ?_
  refine P_aload_n (pc := 1) dX11_isWalker_1 rfl ?_
  refine P_getr (pc := 2) 11 2 dX11_isWalker_2 fl_X11_26 sh_0 fr_11_2 F_0_2 ?_
  refine P_getr (pc := 5) 8 2 dX11_isWalker_5 fl_X11_116 sh_5 fr_8_2 F_5_2 ?_
  refine P_geti (pc := 8) 10 4 (x := nI (n)) dX11_isWalker_8 fl_X11_120 sh_31 fi_10_4 (hn) ?_
  obtain ⟨_, _, _, kw1, rfl, rfl, rfl⟩ := c_isWithin (l := l) (D := D) (tw := 5) (I := I) (x := x) (n := (n)) (by omega)
  refine P_callS (pc := 11) (S := []) (As := [_, _]) kw1 dX11_isWalker_11 ok_X11_isWithin ml_X11_180 is_X11_isWithin ⟨by decide, by decide⟩ (zret_b (zix x (n))) rfl ⟨rfl, by decide⟩ (Nat.le_of_ble_eq_true rfl) ?_
  exact P_iret (pc := 14) dX11_isWalker_14 (⟨rfl, rfl, rfl⟩)
set_option maxRecDepth 20000 in
theorem c_send_5 {l : Launch} {D : va_G} {I : AI} {s : Nat → Nat → Nat} (hC : CR 5 s I) (hR : RInv s) {i : Nat} (hi : i < s 116 0) : ZP l D zm_X11_send 0 (zent 3 [.ref 0, .int (nI i)]) [] I (zF 5) (fun v J G => v = none ∧ G = zF 5 ∧ zMk (zTw s 0 i) (s 119 i) I J) := by
  have hB1 := hC.st.2.1
  have hB2 := hC.wk.2.1
  have hB3 := hC.sg.2.1
  show ZP _ _ _ _ [some _, some _, none] _ _ _ _
  refine P_aload_n (pc := 0) dX11_send_0 rfl ?_
  refine P_getr (pc := 1) 11 2 dX11_send_1 fl_X11_26 sh_0 fr_11_2 F_0_2 ?_
  refine P_getr (pc := 4) 8 2 dX11_send_4 fl_X11_116 sh_5 fr_8_2 F_5_2 ?_
  refine P_astore_n (pc := 7) dX11_send_7 (by decide) rfl ?_
  refine P_aload_n (pc := 8) dX11_send_8 rfl ?_
  refine P_getr (pc := 9) 11 4 dX11_send_9 fl_X11_36 sh_0 fr_11_4 F_0_4 ?_
  refine P_aload_n (pc := 12) dX11_send_12 rfl ?_
  refine P_getr (pc := 13) 11 2 dX11_send_13 fl_X11_26 sh_0 fr_11_2 F_0_2 ?_
  refine P_aload_n (pc := 16) dX11_send_16 rfl ?_
  refine P_getr (pc := 17) 11 2 dX11_send_17 fl_X11_26 sh_0 fr_11_2 F_0_2 ?_
  refine P_getr (pc := 20) 8 1 dX11_send_20 fl_X11_156 sh_5 fr_8_1 F_5_1 ?_
  refine P_aload_n (pc := 23) dX11_send_23 rfl ?_
  refine P_getr (pc := 24) 10 0 dX11_send_24 fl_X11_170 sh_31 fr_10_0 F_31_0 ?_
  refine P_iload_n (pc := 27) dX11_send_27 rfl ?_
  refine P_iald (pc := 28) (i) (x := nI (s 117 i)) dX11_send_28 sh_32 rfl (by omega) (by decide) ((hC.wk.2.2 _ (by omega)).1.1) ?_
  refine P_aload_n (pc := 29) dX11_send_29 rfl ?_
  refine P_getr (pc := 30) 10 1 dX11_send_30 fl_X11_173 sh_31 fr_10_1 F_31_1 ?_
  refine P_iload_n (pc := 33) dX11_send_33 rfl ?_
  refine P_iald (pc := 34) (i) (x := nI (s 118 i)) dX11_send_34 sh_33 rfl (by omega) (by decide) ((hC.wk.2.2 _ (by omega)).1.2.1) ?_
  refine P_aload_n (pc := 35) dX11_send_35 rfl ?_
  refine P_getr (pc := 36) 10 2 dX11_send_36 fl_X11_176 sh_31 fr_10_2 F_31_2 ?_
  refine P_iload_n (pc := 39) dX11_send_39 rfl ?_
  refine P_iald (pc := 40) (i) (x := nI (s 119 i)) dX11_send_40 sh_34 rfl (by omega) (by decide) ((hC.wk.2.2 _ (by omega)).1.2.2.1) ?_
  refine P_aload_n (pc := 41) dX11_send_41 rfl ?_
  refine P_getr (pc := 42) 10 3 dX11_send_42 fl_X11_177 sh_31 fr_10_3 F_31_3 ?_
  refine P_iload_n (pc := 45) dX11_send_45 rfl ?_
  refine P_iald (pc := 46) (i) (x := nI (s 122 (28 + i))) dX11_send_46 sh_35 rfl (by omega) (by decide) ((hC.wk.2.2 _ (by omega)).1.2.2.2) ?_
  have hb := hC.wk.2.2 i hi
  obtain ⟨_, K, _, km, rfl, rfl, hK⟩ := c_make_5_27 (l := l) (D := D) (tw := 5) (I := I) hC.st hC.sg hC.rt (kd := s 117 i) (fm := s 118 i) (a := s 119 i) (to := s 122 (28 + i)) hR.1.2.2.2.2.2 hR.1.1.2.2.1 hb.2.1 hb.2.2.1 hb.2.2.2.1 hb.2.2.2.2
  refine P_callV (pc := 47) (S := []) (As := [_, _, _, _, _, _]) km dX11_send_47 ok_X9_make ml_X11_254 iv_X9_make ⟨by decide, by decide⟩ zret_v rfl ⟨rfl, by decide⟩ sh_67 ⟨by decide, rfl⟩ (Nat.le_of_ble_eq_true rfl) ?_
  exact P_ret (pc := 50) dX11_send_50 (⟨rfl, rfl, by unfold zTw; rw [show 0 + 28 + i = 28 + i by omega]; exact hK⟩)
set_option maxRecDepth 20000 in
theorem c_taxBy_5_27 {l : Launch} {D : va_G} {I : AI} {nc : Nat} {nr fr : Nat → Nat} (hC : CSt nc nr fr I 6 10 19) {m : Nat} {gc gt gn : Nat → Nat} {wm : Nat} {kd fm am to : Nat → Nat} (hS : CSg m gc gt gn I 27) (hW : CWk wm kd fm am to I 31) {r0 r1 r2 : Nat} (hr : I 5 3 = nI r0 ∧ I 5 4 = nI r1 ∧ I 5 5 = nI r2) (hn1 : 1 ≤ nc) (hsym : ∀ a b, a < 8 → b < 8 → nr (8 * a + b) = nr (8 * b + a)) : ZP l D zm_X11_taxBy 0 (zent 5 [.ref 0, .ref 27]) [] I (zF 5) (fun v J G => v = some (nI (zSum (fun i => (zTrip (zNx nc nr fr (fun c => zSign gc gt gn c (am i) m) (kd i) (am i)) (fun c n => zOnB nr fr c n (to i)) nr (kd i) r0 r1 r2 (am i) (fm i)).2.2.2.1) wm)) ∧ G = zF 5 ∧ zTf I J) := by
  have hw4 := hW.2.1
  have loop : ∀ (d : Nat) (i : Nat) (J : AI), wm - i < d → i ≤ wm → zTf I J → ZP l D zm_X11_taxBy 13 [some (.ref 0), some (.ref 27), some (.ref 31), some (.int (nI (zSum (fun i => (zTrip (zNx nc nr fr (fun c => zSign gc gt gn c (am i) m) (kd i) (am i)) (fun c n => zOnB nr fr c n (to i)) nr (kd i) r0 r1 r2 (am i) (fm i)).2.2.2.1) i))), some (.int (nI i))] [] J (zF 5) (fun v J G => v = some (nI (zSum (fun i => (zTrip (zNx nc nr fr (fun c => zSign gc gt gn c (am i) m) (kd i) (am i)) (fun c n => zOnB nr fr c n (to i)) nr (kd i) r0 r1 r2 (am i) (fm i)).2.2.2.1) wm)) ∧ G = zF 5 ∧ zTf I J) := by
    intro d
    induction d with
    | zero =>
      intro i J hd
      exact absurd hd (by omega)
    | succ d ih =>
      intro i J hd hi hF
      refine P_iload (pc := 13) dX11_taxBy_13 rfl ?_
      refine P_aload_n (pc := 15) dX11_taxBy_15 rfl ?_
      refine P_geti (pc := 16) 10 4 (x := nI (wm)) dX11_taxBy_16 fl_X11_120 sh_31 fi_10_4 ((congrFun (hF 31 (by decide) (by decide) (by decide)) 4).trans hW.1) ?_
      refine P_icmp_geN (pc := 19) (tgt := 78) dX11_taxBy_19 (by decide) (by omega) (by omega) (fun h19 => ?_) (fun h19 => ?_)
      · refine P_iload_n (pc := 78) dX11_taxBy_78 rfl ?_
        refine P_iret (pc := 79) dX11_taxBy_79 ?_
        have hi2 : i = wm := by omega
        subst hi2
        exact ⟨rfl, rfl, hF⟩
      · refine P_aload_n (pc := 22) dX11_taxBy_22 rfl ?_
        refine P_getr (pc := 23) 11 4 dX11_taxBy_23 fl_X11_36 sh_0 fr_11_4 F_0_4 ?_
        refine P_aload_n (pc := 26) dX11_taxBy_26 rfl ?_
        refine P_getr (pc := 27) 11 2 dX11_taxBy_27 fl_X11_26 sh_0 fr_11_2 F_0_2 ?_
        refine P_aload_n (pc := 30) dX11_taxBy_30 rfl ?_
        refine P_aload_n (pc := 31) dX11_taxBy_31 rfl ?_
        refine P_getr (pc := 32) 10 0 dX11_taxBy_32 fl_X11_170 sh_31 fr_10_0 F_31_0 ?_
        refine P_iload (pc := 35) dX11_taxBy_35 rfl ?_
        refine P_iald (pc := 37) (i) (x := nI (kd i)) dX11_taxBy_37 sh_32 rfl (by omega) (by decide) ((congrFun (hF 32 (by decide) (by decide) (by decide)) _).trans (hW.2.2 _ (by omega)).1.1) ?_
        refine P_aload_n (pc := 38) dX11_taxBy_38 rfl ?_
        refine P_getr (pc := 39) 10 1 dX11_taxBy_39 fl_X11_173 sh_31 fr_10_1 F_31_1 ?_
        refine P_iload (pc := 42) dX11_taxBy_42 rfl ?_
        refine P_iald (pc := 44) (i) (x := nI (fm i)) dX11_taxBy_44 sh_33 rfl (by omega) (by decide) ((congrFun (hF 33 (by decide) (by decide) (by decide)) _).trans (hW.2.2 _ (by omega)).1.2.1) ?_
        refine P_aload_n (pc := 45) dX11_taxBy_45 rfl ?_
        refine P_getr (pc := 46) 10 2 dX11_taxBy_46 fl_X11_176 sh_31 fr_10_2 F_31_2 ?_
        refine P_iload (pc := 49) dX11_taxBy_49 rfl ?_
        refine P_iald (pc := 51) (i) (x := nI (am i)) dX11_taxBy_51 sh_34 rfl (by omega) (by decide) ((congrFun (hF 34 (by decide) (by decide) (by decide)) _).trans (hW.2.2 _ (by omega)).1.2.2.1) ?_
        refine P_aload_n (pc := 52) dX11_taxBy_52 rfl ?_
        refine P_getr (pc := 53) 10 3 dX11_taxBy_53 fl_X11_177 sh_31 fr_10_3 F_31_3 ?_
        refine P_iload (pc := 56) dX11_taxBy_56 rfl ?_
        refine P_iald (pc := 58) (i) (x := nI (to i)) dX11_taxBy_58 sh_35 rfl (by omega) (by decide) ((congrFun (hF 35 (by decide) (by decide) (by decide)) _).trans (hW.2.2 _ (by omega)).1.2.2.2) ?_
        have hb := hW.2.2 i (by omega)
        have hrJ : J 5 3 = nI r0 ∧ J 5 4 = nI r1 ∧ J 5 5 = nI r2 := by rw [hF 5 (by decide) (by decide) (by decide)]; exact hr
        obtain ⟨_, K, _, km, rfl, rfl, hK⟩ := c_make_5_27 (l := l) (D := D) (tw := 5) (I := J) (hC.tf hF hs_5) (hS.tf hF hg_27) hrJ (kd := kd i) (fm := fm i) (a := am i) (to := to i) hn1 hsym hb.2.1 hb.2.2.1 hb.2.2.2.1 hb.2.2.2.2
        refine P_callV (pc := 59) (S := []) (As := [_, _, _, _, _, _]) km dX11_taxBy_59 ok_X9_make ml_X11_254 iv_X9_make ⟨by decide, by decide⟩ zret_v rfl ⟨rfl, by decide⟩ sh_67 ⟨by decide, rfl⟩ (Nat.le_of_ble_eq_true rfl) ?_
        refine P_iload_n (pc := 62) dX11_taxBy_62 rfl ?_
        refine P_aload_n (pc := 63) dX11_taxBy_63 rfl ?_
        refine P_getr (pc := 64) 11 4 dX11_taxBy_64 fl_X11_36 sh_0 fr_11_4 F_0_4 ?_
        refine P_geti (pc := 67) 9 5 (x := nI ((fun i => (zTrip (zNx nc nr fr (fun c => zSign gc gt gn c (am i) m) (kd i) (am i)) (fun c n => zOnB nr fr c n (to i)) nr (kd i) r0 r1 r2 (am i) (fm i)).2.2.2.1) i)) dX11_taxBy_67 fl_X11_200 sh_67 fi_9_5 (hK.2.2.2.2.1) ?_
        refine P_iaddN (pc := 70) dX11_taxBy_70 ?_
        refine P_istore_n (pc := 71) dX11_taxBy_71 (by decide) rfl ?_
        refine P_iincN (pc := 72) (c := 1) dX11_taxBy_72 rfl (by decide) (by decide) rfl ?_
        refine P_goto (pc := 75) (tgt := 13) dX11_taxBy_75 (by decide) ?_
        exact ih (i + 1) K (by omega) (by omega) (hF.trans hK.1)
  show ZP _ _ _ _ [some _, some _, none, none, none] _ _ _ _
  refine P_aload_n (pc := 0) dX11_taxBy_0 rfl ?_
  refine P_getr (pc := 1) 11 2 dX11_taxBy_1 fl_X11_26 sh_0 fr_11_2 F_0_2 ?_
  refine P_getr (pc := 4) 8 2 dX11_taxBy_4 fl_X11_116 sh_5 fr_8_2 F_5_2 ?_
  refine P_astore_n (pc := 7) dX11_taxBy_7 (by decide) rfl ?_
  refine P_iconst (pc := 8) (x := nI 0) dX11_taxBy_8 (by decide) ?_
  refine P_istore_n (pc := 9) dX11_taxBy_9 (by decide) rfl ?_
  refine P_iconst (pc := 10) (x := nI 0) dX11_taxBy_10 (by decide) ?_
  refine P_istore (pc := 11) dX11_taxBy_11 (by decide) rfl ?_
  exact loop (wm + 1) 0 I (by omega) (by omega) zTf.rf
set_option maxRecDepth 20000 in
theorem c_taxBy_5_70 {l : Launch} {D : va_G} {I : AI} {nc : Nat} {nr fr : Nat → Nat} (hC : CSt nc nr fr I 6 10 19) {m : Nat} {gc gt gn : Nat → Nat} {wm : Nat} {kd fm am to : Nat → Nat} (hS : CSg m gc gt gn I 70) (hW : CWk wm kd fm am to I 31) {r0 r1 r2 : Nat} (hr : I 5 3 = nI r0 ∧ I 5 4 = nI r1 ∧ I 5 5 = nI r2) (hn1 : 1 ≤ nc) (hsym : ∀ a b, a < 8 → b < 8 → nr (8 * a + b) = nr (8 * b + a)) : ZP l D zm_X11_taxBy 0 (zent 5 [.ref 0, .ref 70]) [] I (zF 5) (fun v J G => v = some (nI (zSum (fun i => (zTrip (zNx nc nr fr (fun c => zSign gc gt gn c (am i) m) (kd i) (am i)) (fun c n => zOnB nr fr c n (to i)) nr (kd i) r0 r1 r2 (am i) (fm i)).2.2.2.1) wm)) ∧ G = zF 5 ∧ zTf I J) := by
  have hw4 := hW.2.1
  have loop : ∀ (d : Nat) (i : Nat) (J : AI), wm - i < d → i ≤ wm → zTf I J → ZP l D zm_X11_taxBy 13 [some (.ref 0), some (.ref 70), some (.ref 31), some (.int (nI (zSum (fun i => (zTrip (zNx nc nr fr (fun c => zSign gc gt gn c (am i) m) (kd i) (am i)) (fun c n => zOnB nr fr c n (to i)) nr (kd i) r0 r1 r2 (am i) (fm i)).2.2.2.1) i))), some (.int (nI i))] [] J (zF 5) (fun v J G => v = some (nI (zSum (fun i => (zTrip (zNx nc nr fr (fun c => zSign gc gt gn c (am i) m) (kd i) (am i)) (fun c n => zOnB nr fr c n (to i)) nr (kd i) r0 r1 r2 (am i) (fm i)).2.2.2.1) wm)) ∧ G = zF 5 ∧ zTf I J) := by
    intro d
    induction d with
    | zero =>
      intro i J hd
      exact absurd hd (by omega)
    | succ d ih =>
      intro i J hd hi hF
      refine P_iload (pc := 13) dX11_taxBy_13 rfl ?_
      refine P_aload_n (pc := 15) dX11_taxBy_15 rfl ?_
      refine P_geti (pc := 16) 10 4 (x := nI (wm)) dX11_taxBy_16 fl_X11_120 sh_31 fi_10_4 ((congrFun (hF 31 (by decide) (by decide) (by decide)) 4).trans hW.1) ?_
      refine P_icmp_geN (pc := 19) (tgt := 78) dX11_taxBy_19 (by decide) (by omega) (by omega) (fun h19 => ?_) (fun h19 => ?_)
      · refine P_iload_n (pc := 78) dX11_taxBy_78 rfl ?_
        refine P_iret (pc := 79) dX11_taxBy_79 ?_
        have hi2 : i = wm := by omega
        subst hi2
        exact ⟨rfl, rfl, hF⟩
      · refine P_aload_n (pc := 22) dX11_taxBy_22 rfl ?_
        refine P_getr (pc := 23) 11 4 dX11_taxBy_23 fl_X11_36 sh_0 fr_11_4 F_0_4 ?_
        refine P_aload_n (pc := 26) dX11_taxBy_26 rfl ?_
        refine P_getr (pc := 27) 11 2 dX11_taxBy_27 fl_X11_26 sh_0 fr_11_2 F_0_2 ?_
        refine P_aload_n (pc := 30) dX11_taxBy_30 rfl ?_
        refine P_aload_n (pc := 31) dX11_taxBy_31 rfl ?_
        refine P_getr (pc := 32) 10 0 dX11_taxBy_32 fl_X11_170 sh_31 fr_10_0 F_31_0 ?_
        refine P_iload (pc := 35) dX11_taxBy_35 rfl ?_
        refine P_iald (pc := 37) (i) (x := nI (kd i)) dX11_taxBy_37 sh_32 rfl (by omega) (by decide) ((congrFun (hF 32 (by decide) (by decide) (by decide)) _).trans (hW.2.2 _ (by omega)).1.1) ?_
        refine P_aload_n (pc := 38) dX11_taxBy_38 rfl ?_
        refine P_getr (pc := 39) 10 1 dX11_taxBy_39 fl_X11_173 sh_31 fr_10_1 F_31_1 ?_
        refine P_iload (pc := 42) dX11_taxBy_42 rfl ?_
        refine P_iald (pc := 44) (i) (x := nI (fm i)) dX11_taxBy_44 sh_33 rfl (by omega) (by decide) ((congrFun (hF 33 (by decide) (by decide) (by decide)) _).trans (hW.2.2 _ (by omega)).1.2.1) ?_
        refine P_aload_n (pc := 45) dX11_taxBy_45 rfl ?_
        refine P_getr (pc := 46) 10 2 dX11_taxBy_46 fl_X11_176 sh_31 fr_10_2 F_31_2 ?_
        refine P_iload (pc := 49) dX11_taxBy_49 rfl ?_
        refine P_iald (pc := 51) (i) (x := nI (am i)) dX11_taxBy_51 sh_34 rfl (by omega) (by decide) ((congrFun (hF 34 (by decide) (by decide) (by decide)) _).trans (hW.2.2 _ (by omega)).1.2.2.1) ?_
        refine P_aload_n (pc := 52) dX11_taxBy_52 rfl ?_
        refine P_getr (pc := 53) 10 3 dX11_taxBy_53 fl_X11_177 sh_31 fr_10_3 F_31_3 ?_
        refine P_iload (pc := 56) dX11_taxBy_56 rfl ?_
        refine P_iald (pc := 58) (i) (x := nI (to i)) dX11_taxBy_58 sh_35 rfl (by omega) (by decide) ((congrFun (hF 35 (by decide) (by decide) (by decide)) _).trans (hW.2.2 _ (by omega)).1.2.2.2) ?_
        have hb := hW.2.2 i (by omega)
        have hrJ : J 5 3 = nI r0 ∧ J 5 4 = nI r1 ∧ J 5 5 = nI r2 := by rw [hF 5 (by decide) (by decide) (by decide)]; exact hr
        obtain ⟨_, K, _, km, rfl, rfl, hK⟩ := c_make_5_70 (l := l) (D := D) (tw := 5) (I := J) (hC.tf hF hs_5) (hS.tf hF hg_70) hrJ (kd := kd i) (fm := fm i) (a := am i) (to := to i) hn1 hsym hb.2.1 hb.2.2.1 hb.2.2.2.1 hb.2.2.2.2
        refine P_callV (pc := 59) (S := []) (As := [_, _, _, _, _, _]) km dX11_taxBy_59 ok_X9_make ml_X11_254 iv_X9_make ⟨by decide, by decide⟩ zret_v rfl ⟨rfl, by decide⟩ sh_67 ⟨by decide, rfl⟩ (Nat.le_of_ble_eq_true rfl) ?_
        refine P_iload_n (pc := 62) dX11_taxBy_62 rfl ?_
        refine P_aload_n (pc := 63) dX11_taxBy_63 rfl ?_
        refine P_getr (pc := 64) 11 4 dX11_taxBy_64 fl_X11_36 sh_0 fr_11_4 F_0_4 ?_
        refine P_geti (pc := 67) 9 5 (x := nI ((fun i => (zTrip (zNx nc nr fr (fun c => zSign gc gt gn c (am i) m) (kd i) (am i)) (fun c n => zOnB nr fr c n (to i)) nr (kd i) r0 r1 r2 (am i) (fm i)).2.2.2.1) i)) dX11_taxBy_67 fl_X11_200 sh_67 fi_9_5 (hK.2.2.2.2.1) ?_
        refine P_iaddN (pc := 70) dX11_taxBy_70 ?_
        refine P_istore_n (pc := 71) dX11_taxBy_71 (by decide) rfl ?_
        refine P_iincN (pc := 72) (c := 1) dX11_taxBy_72 rfl (by decide) (by decide) rfl ?_
        refine P_goto (pc := 75) (tgt := 13) dX11_taxBy_75 (by decide) ?_
        exact ih (i + 1) K (by omega) (by omega) (hF.trans hK.1)
  show ZP _ _ _ _ [some _, some _, none, none, none] _ _ _ _
  refine P_aload_n (pc := 0) dX11_taxBy_0 rfl ?_
  refine P_getr (pc := 1) 11 2 dX11_taxBy_1 fl_X11_26 sh_0 fr_11_2 F_0_2 ?_
  refine P_getr (pc := 4) 8 2 dX11_taxBy_4 fl_X11_116 sh_5 fr_8_2 F_5_2 ?_
  refine P_astore_n (pc := 7) dX11_taxBy_7 (by decide) rfl ?_
  refine P_iconst (pc := 8) (x := nI 0) dX11_taxBy_8 (by decide) ?_
  refine P_istore_n (pc := 9) dX11_taxBy_9 (by decide) rfl ?_
  refine P_iconst (pc := 10) (x := nI 0) dX11_taxBy_10 (by decide) ?_
  refine P_istore (pc := 11) dX11_taxBy_11 (by decide) rfl ?_
  exact loop (wm + 1) 0 I (by omega) (by omega) zTf.rf
set_option maxRecDepth 20000 in
theorem c_far11_5 {l : Launch} {D : va_G} {I : AI} {s : Nat → Nat → Nat} (hC : CR 5 s I) (hR : RInv s) {x y : Int32} : ZP l D zm_X11_far 0 (zent 3 [.ref 0, .int x, .int y]) [] I (zF 5) (fun v J G => v = some (aFar s x y) ∧ I = J ∧ G = zF 5) := by
  have hB1 := hC.st.2.1
  have hB2 := hC.wk.2.1
  have hB3 := hC.sg.2.1
  show ZP _ _ _ _ [some _, some _, some _] _ _ _ _
  refine P_aload_n (pc := 0) dX11_far_0 rfl ?_
  refine P_iload_n (pc := 1) dX11_far_1 rfl ?_
  obtain ⟨_, _, _, kw1, rfl, rfl, rfl⟩ := c_isCorner11_5 (l := l) (D := D) (I := I) (x := x) (n := s 111 0) hC.st.1 (by omega)
  refine P_callV (pc := 2) (S := []) (As := [_]) kw1 dX11_far_2 ok_X11_isCorner ml_X11_146 iv_X11_isCorner ⟨by decide, by decide⟩ (zret_b (zix x (s 111 0))) rfl ⟨rfl, by decide⟩ sh_0 ⟨by decide, rfl⟩ (Nat.le_of_ble_eq_true rfl) ?_
  refine P_if_eqB (pc := 5) (tgt := 16) dX11_far_5 (by decide) (fun h5 => ?_) (fun h5 => ?_)
  · refine P_iconst (pc := 16) (x := (-1)) dX11_far_16 (by decide) ?_
    exact P_iret (pc := 17) dX11_far_17 (⟨by unfold aFar; rw [if_neg (by intro z; simp_all)], rfl, rfl⟩)
  · obtain ⟨i, hl_i, rfl⟩ := zix_t h5 (by omega)
    refine P_aload_n (pc := 8) dX11_far_8 rfl ?_
    refine P_iload_n (pc := 9) dX11_far_9 rfl ?_
    obtain ⟨_, _, _, kw2, rfl, rfl, rfl⟩ := c_isCorner11_5 (l := l) (D := D) (I := I) (x := y) (n := s 111 0) hC.st.1 (by omega)
    refine P_callV (pc := 10) (S := []) (As := [_]) kw2 dX11_far_10 ok_X11_isCorner ml_X11_146 iv_X11_isCorner ⟨by decide, by decide⟩ (zret_b (zix y (s 111 0))) rfl ⟨rfl, by decide⟩ sh_0 ⟨by decide, rfl⟩ (Nat.le_of_ble_eq_true rfl) ?_
    refine P_if_neB (pc := 13) (tgt := 18) dX11_far_13 (by decide) (fun h13 => ?_) (fun h13 => ?_)
    · obtain ⟨j, hl_j, rfl⟩ := zix_t h13 (by omega)
      have b1 := hC.st.2.2.2.2.1 (8 * i + j) (by omega)
      have b2 := zln_pos b1.1
      refine P_aload_n (pc := 18) dX11_far_18 rfl ?_
      refine P_getr (pc := 19) 11 2 dX11_far_19 fl_X11_26 sh_0 fr_11_2 F_0_2 ?_
      refine P_getr (pc := 22) 8 0 dX11_far_22 fl_X11_125 sh_5 fr_8_0 F_5_0 ?_
      refine P_getr (pc := 25) 6 5 dX11_far_25 fl_X11_129 sh_6 fr_6_5 F_6_5 ?_
      refine P_iload_n (pc := 28) dX11_far_28 rfl ?_
      refine P_aald (pc := 29) (i) dX11_far_29 sh_18 (by decide) rfl (by omega) (by decide) (Fr_18 _ (by omega)) ?_
      refine P_iload_n (pc := 30) dX11_far_30 rfl ?_
      refine P_iald (pc := 31) (j) (x := zds (s 124 (8 * i + j))) dX11_far_31 (shr_19 _ (by omega)) rfl (by omega) (by decide) (hC.st.2.2.2.1 _ _ (by omega) (by omega)) ?_
      exact P_iret (pc := 32) dX11_far_32 (⟨by unfold aFar; rw [if_pos ⟨h5, h13⟩, nI_clamp (by omega), nI_clamp (by omega)]; rfl, rfl, rfl⟩)
    · refine P_iconst (pc := 16) (x := (-1)) dX11_far_16 (by decide) ?_
      exact P_iret (pc := 17) dX11_far_17 (⟨by unfold aFar; rw [if_neg (by intro z; simp_all)], rfl, rfl⟩)
set_option maxRecDepth 20000 in
theorem c_street11_5 {l : Launch} {D : va_G} {I : AI} {s : Nat → Nat → Nat} (hC : CR 5 s I) (hR : RInv s) {x y : Int32} : ZP l D zm_X11_street 0 (zent 4 [.ref 0, .int x, .int y]) [] I (zF 5) (fun v J G => v = some (aStreet s x y) ∧ I = J ∧ G = zF 5) := by
  have hB1 := hC.st.2.1
  have hB2 := hC.wk.2.1
  have hB3 := hC.sg.2.1
  show ZP _ _ _ _ [some _, some _, some _, none] _ _ _ _
  refine P_aload_n (pc := 0) dX11_street_0 rfl ?_
  refine P_iload_n (pc := 1) dX11_street_1 rfl ?_
  obtain ⟨_, _, _, kw1, rfl, rfl, rfl⟩ := c_isCorner11_5 (l := l) (D := D) (I := I) (x := x) (n := s 111 0) hC.st.1 (by omega)
  refine P_callV (pc := 2) (S := []) (As := [_]) kw1 dX11_street_2 ok_X11_isCorner ml_X11_146 iv_X11_isCorner ⟨by decide, by decide⟩ (zret_b (zix x (s 111 0))) rfl ⟨rfl, by decide⟩ sh_0 ⟨by decide, rfl⟩ (Nat.le_of_ble_eq_true rfl) ?_
  refine P_if_eqB (pc := 5) (tgt := 16) dX11_street_5 (by decide) (fun h5 => ?_) (fun h5 => ?_)
  · refine P_iconst (pc := 16) (x := (-1)) dX11_street_16 (by decide) ?_
    exact P_iret (pc := 17) dX11_street_17 (⟨by unfold aStreet; rw [if_neg (by intro z; simp_all)], rfl, rfl⟩)
  · obtain ⟨i, hl_i, rfl⟩ := zix_t h5 (by omega)
    refine P_aload_n (pc := 8) dX11_street_8 rfl ?_
    refine P_iload_n (pc := 9) dX11_street_9 rfl ?_
    obtain ⟨_, _, _, kw2, rfl, rfl, rfl⟩ := c_isCorner11_5 (l := l) (D := D) (I := I) (x := y) (n := s 111 0) hC.st.1 (by omega)
    refine P_callV (pc := 10) (S := []) (As := [_]) kw2 dX11_street_10 ok_X11_isCorner ml_X11_146 iv_X11_isCorner ⟨by decide, by decide⟩ (zret_b (zix y (s 111 0))) rfl ⟨rfl, by decide⟩ sh_0 ⟨by decide, rfl⟩ (Nat.le_of_ble_eq_true rfl) ?_
    refine P_if_neB (pc := 13) (tgt := 18) dX11_street_13 (by decide) (fun h13 => ?_) (fun h13 => ?_)
    · obtain ⟨j, hl_j, rfl⟩ := zix_t h13 (by omega)
      have b1 := hC.st.2.2.2.2.1 (8 * i + j) (by omega)
      have b2 := zln_pos b1.1
      refine P_aload_n (pc := 18) dX11_street_18 rfl ?_
      refine P_getr (pc := 19) 11 2 dX11_street_19 fl_X11_26 sh_0 fr_11_2 F_0_2 ?_
      refine P_getr (pc := 22) 8 0 dX11_street_22 fl_X11_125 sh_5 fr_8_0 F_5_0 ?_
      refine P_getr (pc := 25) 6 4 dX11_street_25 fl_X11_150 sh_6 fr_6_4 F_6_4 ?_
      refine P_iload_n (pc := 28) dX11_street_28 rfl ?_
      refine P_aald (pc := 29) (i) dX11_street_29 sh_9 (by decide) rfl (by omega) (by decide) (Fr_9 _ (by omega)) ?_
      refine P_iload_n (pc := 30) dX11_street_30 rfl ?_
      refine P_iald (pc := 31) (j) (x := nI (zln (s 123 (8 * i + j)))) dX11_street_31 (shr_10 _ (by omega)) rfl (by omega) (by decide) (hC.st.2.2.1 _ _ (by omega) (by omega)) ?_
      refine P_istore_n (pc := 32) dX11_street_32 (by decide) rfl ?_
      refine P_iload_n (pc := 33) dX11_street_33 rfl ?_
      refine P_if_le (pc := 34) (tgt := 41) dX11_street_34 (by decide) (fun h34 => ?_) (fun h34 => ?_)
      · refine P_bipush (pc := 41) (x := (-4)) dX11_street_41 (by decide) ?_
        exact P_iret (pc := 43) dX11_street_43 (⟨by unfold aStreet; rw [if_pos ⟨h5, h13⟩, nI_clamp (by omega), nI_clamp (by omega)]; rw [if_pos (by have h9 := (nI_le0 (by omega)).mp h34; omega)], rfl, rfl⟩)
      · refine P_iload_n (pc := 37) dX11_street_37 rfl ?_
        refine P_goto (pc := 38) (tgt := 43) dX11_street_38 (by decide) ?_
        exact P_iret (pc := 43) dX11_street_43 (⟨by unfold aStreet; rw [if_pos ⟨h5, h13⟩, nI_clamp (by omega), nI_clamp (by omega)]; have h9 : ¬ zln (s 123 (8 * i + j)) = 0 := fun z => h34 ((nI_le0 (by omega)).mpr z); have h8 := b2.1.mp (by omega); rw [if_neg (by omega), zln_lt h8], rfl, rfl⟩)
    · refine P_iconst (pc := 16) (x := (-1)) dX11_street_16 (by decide) ?_
      exact P_iret (pc := 17) dX11_street_17 (⟨by unfold aStreet; rw [if_neg (by intro z; simp_all)], rfl, rfl⟩)
set_option maxRecDepth 20000 in
theorem c_sign11_5 {l : Launch} {D : va_G} {I : AI} {s : Nat → Nat → Nat} (hC : CR 5 s I) (hR : RInv s) {x y : Int32} : ZP l D zm_X11_sign 0 (zent 3 [.ref 0, .int x, .int y]) [] I (zF 5) (fun v J G => v = some (aSign s x y) ∧ I = J ∧ G = zF 5) := by
  have hB1 := hC.st.2.1
  have hB2 := hC.wk.2.1
  have hB3 := hC.sg.2.1
  show ZP _ _ _ _ [some _, some _, some _] _ _ _ _
  refine P_aload_n (pc := 0) dX11_sign_0 rfl ?_
  refine P_iload_n (pc := 1) dX11_sign_1 rfl ?_
  obtain ⟨_, _, _, kw1, rfl, rfl, rfl⟩ := c_isSign11_5 (l := l) (D := D) (I := I) (x := x) (n := s 122 0) hC.sg.1 (by omega)
  refine P_callV (pc := 2) (S := []) (As := [_]) kw1 dX11_sign_2 ok_X11_isSign ml_X11_153 iv_X11_isSign ⟨by decide, by decide⟩ (zret_b (zix x (s 122 0))) rfl ⟨rfl, by decide⟩ sh_0 ⟨by decide, rfl⟩ (Nat.le_of_ble_eq_true rfl) ?_
  refine P_if_neB (pc := 5) (tgt := 10) dX11_sign_5 (by decide) (fun h5 => ?_) (fun h5 => ?_)
  · obtain ⟨i, hl_i, rfl⟩ := zix_t h5 (by omega)
    refine P_iload_n (pc := 10) dX11_sign_10 rfl ?_
    by_cases h9 : zix y 3 = true
    · obtain ⟨j, hj, rfl⟩ := zix_t h9 (by omega)
      have hj4 : j = 0 ∨ j = 1 ∨ j = 2 := by omega
      rcases hj4 with rfl | rfl | rfl
      · refine P_tableIn (pc := 11) (tgt := 36) dX11_sign_11 (by decide) (by decide) (by rfl) (by decide) ?_
        refine P_aload_n (pc := 36) dX11_sign_36 rfl ?_
        refine P_getr (pc := 37) 11 2 dX11_sign_37 fl_X11_26 sh_0 fr_11_2 F_0_2 ?_
        refine P_getr (pc := 40) 8 1 dX11_sign_40 fl_X11_156 sh_5 fr_8_1 F_5_1 ?_
        refine P_getr (pc := 43) 5 0 dX11_sign_43 fl_X11_159 sh_27 fr_5_0 F_27_0 ?_
        refine P_iload_n (pc := 46) dX11_sign_46 rfl ?_
        refine P_iald (pc := 47) (i) (x := nI (sgC s 0 i)) dX11_sign_47 sh_28 rfl (by omega) (by decide) ((hC.sg.2.2 _ (by omega)).1.1) ?_
        exact P_iret (pc := 48) dX11_sign_48 (⟨by unfold aSign; rw [if_pos ⟨h5, h9⟩, nI_clamp (by omega), nI_clamp (by omega)] <;> exact congrArg some (congrArg nI (congrArg (s 122) (by omega))), rfl, rfl⟩)
      · refine P_tableIn (pc := 11) (tgt := 49) dX11_sign_11 (by decide) (by decide) (by rfl) (by decide) ?_
        refine P_aload_n (pc := 49) dX11_sign_49 rfl ?_
        refine P_getr (pc := 50) 11 2 dX11_sign_50 fl_X11_26 sh_0 fr_11_2 F_0_2 ?_
        refine P_getr (pc := 53) 8 1 dX11_sign_53 fl_X11_156 sh_5 fr_8_1 F_5_1 ?_
        refine P_getr (pc := 56) 5 1 dX11_sign_56 fl_X11_161 sh_27 fr_5_1 F_27_1 ?_
        refine P_iload_n (pc := 59) dX11_sign_59 rfl ?_
        refine P_iald (pc := 60) (i) (x := nI (sgT s 0 i)) dX11_sign_60 sh_29 rfl (by omega) (by decide) ((hC.sg.2.2 _ (by omega)).1.2.1) ?_
        exact P_iret (pc := 61) dX11_sign_61 (⟨by unfold aSign; rw [if_pos ⟨h5, h9⟩, nI_clamp (by omega), nI_clamp (by omega)] <;> exact congrArg some (congrArg nI (congrArg (s 122) (by omega))), rfl, rfl⟩)
      · refine P_tableIn (pc := 11) (tgt := 62) dX11_sign_11 (by decide) (by decide) (by rfl) (by decide) ?_
        refine P_aload_n (pc := 62) dX11_sign_62 rfl ?_
        refine P_getr (pc := 63) 11 2 dX11_sign_63 fl_X11_26 sh_0 fr_11_2 F_0_2 ?_
        refine P_getr (pc := 66) 8 1 dX11_sign_66 fl_X11_156 sh_5 fr_8_1 F_5_1 ?_
        refine P_getr (pc := 69) 5 2 dX11_sign_69 fl_X11_164 sh_27 fr_5_2 F_27_2 ?_
        refine P_iload_n (pc := 72) dX11_sign_72 rfl ?_
        refine P_iald (pc := 73) (i) (x := nI (sgN s 0 i)) dX11_sign_73 sh_30 rfl (by omega) (by decide) ((hC.sg.2.2 _ (by omega)).1.2.2) ?_
        exact P_iret (pc := 74) dX11_sign_74 (⟨by unfold aSign; rw [if_pos ⟨h5, h9⟩, nI_clamp (by omega), nI_clamp (by omega)] <;> exact congrArg some (congrArg nI (congrArg (s 122) (by omega))), rfl, rfl⟩)
    · refine P_tableOut (pc := 11) (tgt := 75) dX11_sign_11 (by have h8 := of_decide_eq_false (by simpa using h9 : zix y 3 = false); omega) (by decide) ?_
      refine P_iconst (pc := 75) (x := (-1)) dX11_sign_75 (by decide) ?_
      exact P_iret (pc := 76) dX11_sign_76 (⟨by unfold aSign; rw [if_neg (by intro z; simp_all)], rfl, rfl⟩)
  · refine P_iconst (pc := 8) (x := (-1)) dX11_sign_8 (by decide) ?_
    exact P_iret (pc := 9) dX11_sign_9 (⟨by unfold aSign; rw [if_neg (by intro z; simp_all)], rfl, rfl⟩)
set_option maxRecDepth 20000 in
theorem c_walker11_5 {l : Launch} {D : va_G} {I : AI} {s : Nat → Nat → Nat} (hC : CR 5 s I) (hR : RInv s) {x y : Int32} : ZP l D zm_X11_walker 0 (zent 3 [.ref 0, .int x, .int y]) [] I (zF 5) (fun v J G => v = some (aWalker s x y) ∧ I = J ∧ G = zF 5) := by
  have hB1 := hC.st.2.1
  have hB2 := hC.wk.2.1
  have hB3 := hC.sg.2.1
  show ZP _ _ _ _ [some _, some _, some _] _ _ _ _
  refine P_aload_n (pc := 0) dX11_walker_0 rfl ?_
  refine P_iload_n (pc := 1) dX11_walker_1 rfl ?_
  obtain ⟨_, _, _, kw1, rfl, rfl, rfl⟩ := c_isWalker11_5 (l := l) (D := D) (I := I) (x := x) (n := s 116 0) hC.wk.1 (by omega)
  refine P_callV (pc := 2) (S := []) (As := [_]) kw1 dX11_walker_2 ok_X11_isWalker ml_X11_167 iv_X11_isWalker ⟨by decide, by decide⟩ (zret_b (zix x (s 116 0))) rfl ⟨rfl, by decide⟩ sh_0 ⟨by decide, rfl⟩ (Nat.le_of_ble_eq_true rfl) ?_
  refine P_if_neB (pc := 5) (tgt := 10) dX11_walker_5 (by decide) (fun h5 => ?_) (fun h5 => ?_)
  · obtain ⟨i, hl_i, rfl⟩ := zix_t h5 (by omega)
    refine P_iload_n (pc := 10) dX11_walker_10 rfl ?_
    by_cases h9 : zix y 4 = true
    · obtain ⟨j, hj, rfl⟩ := zix_t h9 (by omega)
      have hj4 : j = 0 ∨ j = 1 ∨ j = 2 ∨ j = 3 := by omega
      rcases hj4 with rfl | rfl | rfl | rfl
      · refine P_tableIn (pc := 11) (tgt := 40) dX11_walker_11 (by decide) (by decide) (by rfl) (by decide) ?_
        refine P_aload_n (pc := 40) dX11_walker_40 rfl ?_
        refine P_getr (pc := 41) 11 2 dX11_walker_41 fl_X11_26 sh_0 fr_11_2 F_0_2 ?_
        refine P_getr (pc := 44) 8 2 dX11_walker_44 fl_X11_116 sh_5 fr_8_2 F_5_2 ?_
        refine P_getr (pc := 47) 10 0 dX11_walker_47 fl_X11_170 sh_31 fr_10_0 F_31_0 ?_
        refine P_iload_n (pc := 50) dX11_walker_50 rfl ?_
        refine P_iald (pc := 51) (i) (x := nI (s 117 i)) dX11_walker_51 sh_32 rfl (by omega) (by decide) ((hC.wk.2.2 _ (by omega)).1.1) ?_
        exact P_iret (pc := 52) dX11_walker_52 (⟨by unfold aWalker; rw [if_pos ⟨h5, h9⟩, nI_clamp (by omega), nI_clamp (by omega)]; rfl, rfl, rfl⟩)
      · refine P_tableIn (pc := 11) (tgt := 53) dX11_walker_11 (by decide) (by decide) (by rfl) (by decide) ?_
        refine P_aload_n (pc := 53) dX11_walker_53 rfl ?_
        refine P_getr (pc := 54) 11 2 dX11_walker_54 fl_X11_26 sh_0 fr_11_2 F_0_2 ?_
        refine P_getr (pc := 57) 8 2 dX11_walker_57 fl_X11_116 sh_5 fr_8_2 F_5_2 ?_
        refine P_getr (pc := 60) 10 1 dX11_walker_60 fl_X11_173 sh_31 fr_10_1 F_31_1 ?_
        refine P_iload_n (pc := 63) dX11_walker_63 rfl ?_
        refine P_iald (pc := 64) (i) (x := nI (s 118 i)) dX11_walker_64 sh_33 rfl (by omega) (by decide) ((hC.wk.2.2 _ (by omega)).1.2.1) ?_
        exact P_iret (pc := 65) dX11_walker_65 (⟨by unfold aWalker; rw [if_pos ⟨h5, h9⟩, nI_clamp (by omega), nI_clamp (by omega)]; rfl, rfl, rfl⟩)
      · refine P_tableIn (pc := 11) (tgt := 66) dX11_walker_11 (by decide) (by decide) (by rfl) (by decide) ?_
        refine P_aload_n (pc := 66) dX11_walker_66 rfl ?_
        refine P_getr (pc := 67) 11 2 dX11_walker_67 fl_X11_26 sh_0 fr_11_2 F_0_2 ?_
        refine P_getr (pc := 70) 8 2 dX11_walker_70 fl_X11_116 sh_5 fr_8_2 F_5_2 ?_
        refine P_getr (pc := 73) 10 2 dX11_walker_73 fl_X11_176 sh_31 fr_10_2 F_31_2 ?_
        refine P_iload_n (pc := 76) dX11_walker_76 rfl ?_
        refine P_iald (pc := 77) (i) (x := nI (s 119 i)) dX11_walker_77 sh_34 rfl (by omega) (by decide) ((hC.wk.2.2 _ (by omega)).1.2.2.1) ?_
        exact P_iret (pc := 78) dX11_walker_78 (⟨by unfold aWalker; rw [if_pos ⟨h5, h9⟩, nI_clamp (by omega), nI_clamp (by omega)]; rfl, rfl, rfl⟩)
      · refine P_tableIn (pc := 11) (tgt := 79) dX11_walker_11 (by decide) (by decide) (by rfl) (by decide) ?_
        refine P_aload_n (pc := 79) dX11_walker_79 rfl ?_
        refine P_getr (pc := 80) 11 2 dX11_walker_80 fl_X11_26 sh_0 fr_11_2 F_0_2 ?_
        refine P_getr (pc := 83) 8 2 dX11_walker_83 fl_X11_116 sh_5 fr_8_2 F_5_2 ?_
        refine P_getr (pc := 86) 10 3 dX11_walker_86 fl_X11_177 sh_31 fr_10_3 F_31_3 ?_
        refine P_iload_n (pc := 89) dX11_walker_89 rfl ?_
        refine P_iald (pc := 90) (i) (x := nI (s 122 (28 + i))) dX11_walker_90 sh_35 rfl (by omega) (by decide) ((hC.wk.2.2 _ (by omega)).1.2.2.2) ?_
        exact P_iret (pc := 91) dX11_walker_91 (⟨by unfold aWalker; rw [if_pos ⟨h5, h9⟩, nI_clamp (by omega), nI_clamp (by omega)]; rfl, rfl, rfl⟩)
    · refine P_tableOut (pc := 11) (tgt := 92) dX11_walker_11 (by have h8 := of_decide_eq_false (by simpa using h9 : zix y 4 = false); omega) (by decide) ?_
      refine P_iconst (pc := 92) (x := (-1)) dX11_walker_92 (by decide) ?_
      exact P_iret (pc := 93) dX11_walker_93 (⟨by unfold aWalker; rw [if_neg (by intro z; simp_all)], rfl, rfl⟩)
  · refine P_iconst (pc := 8) (x := (-1)) dX11_walker_8 (by decide) ?_
    exact P_iret (pc := 9) dX11_walker_9 (⟨by unfold aWalker; rw [if_neg (by intro z; simp_all)], rfl, rfl⟩)
set_option maxRecDepth 20000 in
theorem c_count11_5 {l : Launch} {D : va_G} {I : AI} {s : Nat → Nat → Nat} (hC : CR 5 s I) (hR : RInv s) {x : Int32} : ZP l D zm_X11_count 0 (zent 2 [.ref 0, .int x]) [] I (zF 5) (fun v J G => v = some (aCount s x) ∧ I = J ∧ G = zF 5) := by
  have hB1 := hC.st.2.1
  have hB2 := hC.wk.2.1
  have hB3 := hC.sg.2.1
  have hlg : I 74 6 = nI (s 109 18) := by obtain ⟨o, h1, h2, h3, h4⟩ := hC.lg; exact h3
  show ZP _ _ _ _ [some _, some _] _ _ _ _
  refine P_iload_n (pc := 0) dX11_count_0 rfl ?_
  by_cases h9 : zix x 8 = true
  · obtain ⟨j, hj, rfl⟩ := zix_t h9 (by omega)
    have hj4 : j = 0 ∨ j = 1 ∨ j = 2 ∨ j = 3 ∨ j = 4 ∨ j = 5 ∨ j = 6 ∨ j = 7 := by omega
    rcases hj4 with rfl | rfl | rfl | rfl | rfl | rfl | rfl | rfl
    · refine P_tableIn (pc := 1) (tgt := 48) dX11_count_1 (by decide) (by decide) (by rfl) (by decide) ?_
      refine P_aload_n (pc := 48) dX11_count_48 rfl ?_
      refine P_getr (pc := 49) 11 2 dX11_count_49 fl_X11_26 sh_0 fr_11_2 F_0_2 ?_
      refine P_getr (pc := 52) 8 0 dX11_count_52 fl_X11_125 sh_5 fr_8_0 F_5_0 ?_
      refine P_geti (pc := 55) 6 0 (x := nI (s 111 0)) dX11_count_55 fl_X11_143 sh_6 fi_6_0 (hC.st.1) ?_
      exact P_iret (pc := 58) dX11_count_58 (⟨by unfold aCount; rw [if_pos h9, nI_clamp (by omega)] <;> rfl, rfl, rfl⟩)
    · refine P_tableIn (pc := 1) (tgt := 59) dX11_count_1 (by decide) (by decide) (by rfl) (by decide) ?_
      refine P_aload_n (pc := 59) dX11_count_59 rfl ?_
      refine P_getr (pc := 60) 11 2 dX11_count_60 fl_X11_26 sh_0 fr_11_2 F_0_2 ?_
      refine P_getr (pc := 63) 8 0 dX11_count_63 fl_X11_125 sh_5 fr_8_0 F_5_0 ?_
      refine P_geti (pc := 66) 6 1 (x := nI (s 112 0)) dX11_count_66 fl_X11_275 sh_6 fi_6_1 (hC.sr.2.2.1) ?_
      exact P_iret (pc := 69) dX11_count_69 (⟨by unfold aCount; rw [if_pos h9, nI_clamp (by omega)] <;> rfl, rfl, rfl⟩)
    · refine P_tableIn (pc := 1) (tgt := 70) dX11_count_1 (by decide) (by decide) (by rfl) (by decide) ?_
      refine P_aload_n (pc := 70) dX11_count_70 rfl ?_
      refine P_getr (pc := 71) 11 2 dX11_count_71 fl_X11_26 sh_0 fr_11_2 F_0_2 ?_
      refine P_getr (pc := 74) 8 1 dX11_count_74 fl_X11_156 sh_5 fr_8_1 F_5_1 ?_
      refine P_geti (pc := 77) 5 3 (x := nI (s 122 0)) dX11_count_77 fl_X11_214 sh_27 fi_5_3 (hC.sg.1) ?_
      exact P_iret (pc := 80) dX11_count_80 (⟨by unfold aCount; rw [if_pos h9, nI_clamp (by omega)] <;> rfl, rfl, rfl⟩)
    · refine P_tableIn (pc := 1) (tgt := 81) dX11_count_1 (by decide) (by decide) (by rfl) (by decide) ?_
      refine P_aload_n (pc := 81) dX11_count_81 rfl ?_
      refine P_getr (pc := 82) 11 2 dX11_count_82 fl_X11_26 sh_0 fr_11_2 F_0_2 ?_
      refine P_getr (pc := 85) 8 2 dX11_count_85 fl_X11_116 sh_5 fr_8_2 F_5_2 ?_
      refine P_geti (pc := 88) 10 4 (x := nI (s 116 0)) dX11_count_88 fl_X11_120 sh_31 fi_10_4 (hC.wk.1) ?_
      exact P_iret (pc := 91) dX11_count_91 (⟨by unfold aCount; rw [if_pos h9, nI_clamp (by omega)] <;> rfl, rfl, rfl⟩)
    · refine P_tableIn (pc := 1) (tgt := 92) dX11_count_1 (by decide) (by decide) (by rfl) (by decide) ?_
      refine P_aload_n (pc := 92) dX11_count_92 rfl ?_
      refine P_getr (pc := 93) 11 8 dX11_count_93 fl_X11_64 sh_0 fr_11_8 F_0_8 ?_
      refine P_geti (pc := 96) 4 3 (x := nI (s 109 33)) dX11_count_96 fl_X11_142 sh_93 fi_4_3 (hC.se.1) ?_
      exact P_iret (pc := 99) dX11_count_99 (⟨by unfold aCount; rw [if_pos h9, nI_clamp (by omega)] <;> rfl, rfl, rfl⟩)
    · refine P_tableIn (pc := 1) (tgt := 100) dX11_count_1 (by decide) (by decide) (by rfl) (by decide) ?_
      refine P_aload_n (pc := 100) dX11_count_100 rfl ?_
      refine P_getr (pc := 101) 11 6 dX11_count_101 fl_X11_50 sh_0 fr_11_6 F_0_6 ?_
      refine P_geti (pc := 104) 0 6 (x := nI (s 109 18)) dX11_count_104 fl_X11_226 sh_74 fi_0_6 (hlg) ?_
      exact P_iret (pc := 107) dX11_count_107 (⟨by unfold aCount; rw [if_pos h9, nI_clamp (by omega)] <;> rfl, rfl, rfl⟩)
    · refine P_tableIn (pc := 1) (tgt := 108) dX11_count_1 (by decide) (by decide) (by rfl) (by decide) ?_
      refine P_aload_n (pc := 108) dX11_count_108 rfl ?_
      refine P_getr (pc := 109) 11 7 dX11_count_109 fl_X11_57 sh_0 fr_11_7 F_0_7 ?_
      refine P_geti (pc := 112) 3 2 (x := nI (s 109 19)) dX11_count_112 fl_X11_141 sh_80 fi_3_2 (hC.sf.1) ?_
      exact P_iret (pc := 115) dX11_count_115 (⟨by unfold aCount; rw [if_pos h9, nI_clamp (by omega)] <;> rfl, rfl, rfl⟩)
    · refine P_tableIn (pc := 1) (tgt := 116) dX11_count_1 (by decide) (by decide) (by rfl) (by decide) ?_
      refine P_aload_n (pc := 116) dX11_count_116 rfl ?_
      refine P_getr (pc := 117) 11 0 dX11_count_117 fl_X11_10 sh_0 fr_11_0 F_0_0 ?_
      refine P_geti (pc := 120) 7 1 (x := nI (s 109 1)) dX11_count_120 fl_X11_109 sh_1 fi_7_1 (hC.tx.1) ?_
      exact P_iret (pc := 123) dX11_count_123 (⟨by unfold aCount; rw [if_pos h9, nI_clamp (by omega)] <;> rfl, rfl, rfl⟩)
  · refine P_tableOut (pc := 1) (tgt := 124) dX11_count_1 (by have h8 := of_decide_eq_false (by simpa using h9 : zix x 8 = false); omega) (by decide) ?_
    refine P_iconst (pc := 124) (x := (-1)) dX11_count_124 (by decide) ?_
    exact P_iret (pc := 125) dX11_count_125 (⟨by unfold aCount; rw [if_neg h9], rfl, rfl⟩)
set_option maxRecDepth 20000 in
theorem c_lies11_5 {l : Launch} {D : va_G} {I : AI} {s : Nat → Nat → Nat} (hC : CR 5 s I) (hR : RInv s)  : ZP l D zm_X11_lies 0 (zent 4 [.ref 0]) [] I (zF 5) (fun v J G => v = some (aLies s) ∧ I = J ∧ G = zF 5) := by
  have hB1 := hC.st.2.1
  have hB2 := hC.wk.2.1
  have hB3 := hC.sg.2.1
  have loop : ∀ (d : Nat) (k : Nat), s 122 0 - k < d → k ≤ s 122 0 → ZP l D zm_X11_lies 12 [some (.ref 0), some (.ref 27), some (.int (zBits (zLy s) k)), some (.int (nI k))] [] I (zF 5) (fun v J G => v = some (aLies s) ∧ I = J ∧ G = zF 5) := by
    intro d
    induction d with
    | zero =>
      intro k hd
      exact absurd hd (by omega)
    | succ d ih =>
      intro k hd hk
      refine P_iload_n (pc := 12) dX11_lies_12 rfl ?_
      refine P_aload_n (pc := 13) dX11_lies_13 rfl ?_
      refine P_geti (pc := 14) 5 3 (x := nI (s 122 0)) dX11_lies_14 fl_X11_214 sh_27 fi_5_3 (hC.sg.1) ?_
      refine P_icmp_geN (pc := 17) (tgt := 63) dX11_lies_17 (by decide) (by omega) (by omega) (fun h17 => ?_) (fun h17 => ?_)
      · refine P_iload_n (pc := 63) dX11_lies_63 rfl ?_
        refine P_iret (pc := 64) dX11_lies_64 ?_
        have hk2 : k = s 122 0 := by omega
        subst hk2
        exact ⟨rfl, rfl, rfl⟩
      · have hb := hC.sg.2.2 k (by omega)
        refine P_aload_n (pc := 20) dX11_lies_20 rfl ?_
        refine P_getr (pc := 21) 11 2 dX11_lies_21 fl_X11_26 sh_0 fr_11_2 F_0_2 ?_
        refine P_getr (pc := 24) 8 0 dX11_lies_24 fl_X11_125 sh_5 fr_8_0 F_5_0 ?_
        refine P_aload_n (pc := 27) dX11_lies_27 rfl ?_
        refine P_getr (pc := 28) 5 0 dX11_lies_28 fl_X11_159 sh_27 fr_5_0 F_27_0 ?_
        refine P_iload_n (pc := 31) dX11_lies_31 rfl ?_
        refine P_iald (pc := 32) (k) (x := nI (sgC s 0 k)) dX11_lies_32 sh_28 rfl (by omega) (by decide) ((hC.sg.2.2 _ (by omega)).1.1) ?_
        refine P_aload_n (pc := 33) dX11_lies_33 rfl ?_
        refine P_getr (pc := 34) 5 2 dX11_lies_34 fl_X11_164 sh_27 fr_5_2 F_27_2 ?_
        refine P_iload_n (pc := 37) dX11_lies_37 rfl ?_
        refine P_iald (pc := 38) (k) (x := nI (sgN s 0 k)) dX11_lies_38 sh_30 rfl (by omega) (by decide) ((hC.sg.2.2 _ (by omega)).1.2.2) ?_
        refine P_aload_n (pc := 39) dX11_lies_39 rfl ?_
        refine P_getr (pc := 40) 5 1 dX11_lies_40 fl_X11_161 sh_27 fr_5_1 F_27_1 ?_
        refine P_iload_n (pc := 43) dX11_lies_43 rfl ?_
        refine P_iald (pc := 44) (k) (x := nI (sgT s 0 k)) dX11_lies_44 sh_29 rfl (by omega) (by decide) ((hC.sg.2.2 _ (by omega)).1.2.1) ?_
        obtain ⟨_, _, _, kl, rfl, rfl, rfl⟩ := c_leadsOn_5 (l := l) (D := D) (tw := 5) (I := I) hC.st (h := sgC s 0 k) (n := sgN s 0 k) (a := sgT s 0 k) hb.2.1 hb.2.2.2 hb.2.2.1
        refine P_callV (pc := 45) (S := []) (As := [_, _, _]) kl dX11_lies_45 ok_X6_leadsOn ml_X11_231 iv_X6_leadsOn ⟨by decide, by decide⟩ (zret_b (zOnB (s 123) (s 124) (sgC s 0 k) (sgN s 0 k) (sgT s 0 k))) rfl ⟨rfl, by decide⟩ sh_6 ⟨by decide, rfl⟩ (Nat.le_of_ble_eq_true rfl) ?_
        refine P_if_neB (pc := 48) (tgt := 57) dX11_lies_48 (by decide) (fun h48 => ?_) (fun h48 => ?_)
        · refine P_iincN (pc := 57) (c := 1) dX11_lies_57 rfl (by decide) (by decide) rfl ?_
          refine P_goto (pc := 60) (tgt := 12) dX11_lies_60 (by decide) ?_
          have hly := zLy_on hR.1.2.2.2.2.1 (fun k hk => (hC.st.2.2.2.2.1 k hk).1) (c := sgC s 0 k) (a := sgT s 0 k) (n := sgN s 0 k) hb.2.1 hb.2.2.1 hb.2.2.2
          have h9 := ih (k + 1) (by omega) (by omega)
          have hz : zBits (zLy s) (k + 1) = zBits (zLy s) k ||| (if zLy s k = true then nI 1 <<< (nI k &&& 31) else nI 0) := rfl
          have hl : zLy s k = (!zOnB (s 123) (s 124) (sgC s 0 k) (sgN s 0 k) (sgT s 0 k)) := by rw [hly]
          rw [hz, hl, h48] at h9
          rw [if_neg (by decide), nI_0, Int32.or_zero] at h9
          exact h9
        · refine P_iload_n (pc := 51) dX11_lies_51 rfl ?_
          refine P_iconst (pc := 52) (x := nI 1) dX11_lies_52 (by decide) ?_
          refine P_iload_n (pc := 53) dX11_lies_53 rfl ?_
          refine P_ishl (pc := 54) dX11_lies_54 ?_
          refine P_ior (pc := 55) dX11_lies_55 ?_
          refine P_istore_n (pc := 56) dX11_lies_56 (by decide) rfl ?_
          refine P_iincN (pc := 57) (c := 1) dX11_lies_57 rfl (by decide) (by decide) rfl ?_
          refine P_goto (pc := 60) (tgt := 12) dX11_lies_60 (by decide) ?_
          have hly := zLy_on hR.1.2.2.2.2.1 (fun k hk => (hC.st.2.2.2.2.1 k hk).1) (c := sgC s 0 k) (a := sgT s 0 k) (n := sgN s 0 k) hb.2.1 hb.2.2.1 hb.2.2.2
          have h9 := ih (k + 1) (by omega) (by omega)
          have hz : zBits (zLy s) (k + 1) = zBits (zLy s) k ||| (if zLy s k = true then nI 1 <<< (nI k &&& 31) else nI 0) := rfl
          have hl : zLy s k = (!zOnB (s 123) (s 124) (sgC s 0 k) (sgN s 0 k) (sgT s 0 k)) := by rw [hly]
          rw [hz, hl, h48] at h9
          rw [if_pos (show (!false) = true from rfl)] at h9
          exact h9
  show ZP _ _ _ _ [some _, none, none, none] _ _ _ _
  refine P_aload_n (pc := 0) dX11_lies_0 rfl ?_
  refine P_getr (pc := 1) 11 2 dX11_lies_1 fl_X11_26 sh_0 fr_11_2 F_0_2 ?_
  refine P_getr (pc := 4) 8 1 dX11_lies_4 fl_X11_156 sh_5 fr_8_1 F_5_1 ?_
  refine P_astore_n (pc := 7) dX11_lies_7 (by decide) rfl ?_
  refine P_iconst (pc := 8) (x := nI 0) dX11_lies_8 (by decide) ?_
  refine P_istore_n (pc := 9) dX11_lies_9 (by decide) rfl ?_
  refine P_iconst (pc := 10) (x := nI 0) dX11_lies_10 (by decide) ?_
  refine P_istore_n (pc := 11) dX11_lies_11 (by decide) rfl ?_
  exact loop (s 122 0 + 1) 0 (by omega) (by omega)
set_option maxRecDepth 20000 in
theorem c_walk11_5 {l : Launch} {D : va_G} {I : AI} {s : Nat → Nat → Nat} (hC : CR 5 s I) (hR : RInv s) {x y : Int32} : ZP l D zm_X11_walk 0 (zent 3 [.ref 0, .int x, .int y]) [] I (zF 5) (fun v J G => v = some (aWalk s x y) ∧ G = zF 5 ∧ zSc 5 I J) := by
  have hB1 := hC.st.2.1
  have hB2 := hC.wk.2.1
  have hB3 := hC.sg.2.1
  show ZP _ _ _ _ [some _, some _, some _] _ _ _ _
  refine P_aload_n (pc := 0) dX11_walk_0 rfl ?_
  refine P_iload_n (pc := 1) dX11_walk_1 rfl ?_
  obtain ⟨_, _, _, kw1, rfl, rfl, rfl⟩ := c_isWalker11_5 (l := l) (D := D) (I := I) (x := x) (n := s 116 0) hC.wk.1 (by omega)
  refine P_callV (pc := 2) (S := []) (As := [_]) kw1 dX11_walk_2 ok_X11_isWalker ml_X11_167 iv_X11_isWalker ⟨by decide, by decide⟩ (zret_b (zix x (s 116 0))) rfl ⟨rfl, by decide⟩ sh_0 ⟨by decide, rfl⟩ (Nat.le_of_ble_eq_true rfl) ?_
  refine P_if_eqB (pc := 5) (tgt := 17) dX11_walk_5 (by decide) (fun h5 => ?_) (fun h5 => ?_)
  · refine P_iconst (pc := 17) (x := (-1)) dX11_walk_17 (by decide) ?_
    exact P_iret (pc := 18) dX11_walk_18 (⟨by unfold aWalk; rw [if_neg (by intro z; simp_all)], rfl, zSc.rf⟩)
  · obtain ⟨i, hl_i, rfl⟩ := zix_t h5 (by omega)
    refine P_iload_n (pc := 8) dX11_walk_8 rfl ?_
    refine P_bipush (pc := 9) (x := nI 31) dX11_walk_9 (by decide) ?_
    obtain ⟨_, _, _, kw2, rfl, rfl, rfl⟩ := c_isWithin (l := l) (D := D) (tw := 5) (I := I) (x := y) (n := 31) (by omega)
    refine P_callS (pc := 11) (S := []) (As := [_, _]) kw2 dX11_walk_11 ok_X11_isWithin ml_X11_180 is_X11_isWithin ⟨by decide, by decide⟩ (zret_b (zix y 31)) rfl ⟨rfl, by decide⟩ (Nat.le_of_ble_eq_true rfl) ?_
    refine P_if_neB (pc := 14) (tgt := 19) dX11_walk_14 (by decide) (fun h14 => ?_) (fun h14 => ?_)
    · obtain ⟨j, hl_j, rfl⟩ := zix_t h14 (by omega)
      refine P_aload_n (pc := 19) dX11_walk_19 rfl ?_
      refine P_iload_n (pc := 20) dX11_walk_20 rfl ?_
      obtain ⟨_, K, _, ks, rfl, rfl, hK⟩ := c_send_5 (l := l) (D := D) hC hR (i := i) (by omega)
      have hTr := hK.trS hR.1.1 hR.1.2.2.1.2.1 (by have := (hC.wk.2.2 i (by omega)).2.2.1; omega)
      refine P_callV (pc := 21) (S := []) (As := [_]) ks dX11_walk_21 ok_X11_send ml_X11_184 iv_X11_send ⟨by decide, by decide⟩ zret_v rfl ⟨rfl, by decide⟩ sh_0 ⟨by decide, rfl⟩ (Nat.le_of_ble_eq_true rfl) ?_
      refine P_aload_n (pc := 24) dX11_walk_24 rfl ?_
      refine P_getr (pc := 25) 11 4 dX11_walk_25 fl_X11_36 sh_0 fr_11_4 F_0_4 ?_
      refine P_iload_n (pc := 28) dX11_walk_28 rfl ?_
      obtain ⟨_, _, _, k3, rfl, rfl, rfl⟩ := c_placeBehind (l := l) (D := D) (tw := 5) (T := zTw s 0 i) hTr (k := j) (by omega)
      refine P_callV (pc := 29) (S := []) (As := [_]) k3 dX11_walk_29 ok_X9_placeBehind ml_X11_187 iv_X9_placeBehind ⟨by decide, by decide⟩ (zret_i _) rfl ⟨rfl, by decide⟩ sh_67 ⟨by decide, rfl⟩ (Nat.le_of_ble_eq_true rfl) ?_
      exact P_iret (pc := 32) dX11_walk_32 (⟨by unfold aWalk; rw [if_pos ⟨h5, h14⟩, nI_clamp (by omega), nI_clamp (by omega)], rfl, hK.1.sc⟩)
    · refine P_iconst (pc := 17) (x := (-1)) dX11_walk_17 (by decide) ?_
      exact P_iret (pc := 18) dX11_walk_18 (⟨by unfold aWalk; rw [if_neg (by intro z; simp_all)], rfl, zSc.rf⟩)
set_option maxRecDepth 20000 in
theorem c_round11_5 {l : Launch} {D : va_G} {I : AI} {s : Nat → Nat → Nat} (hC : CR 5 s I) (hR : RInv s) {x : Int32} : ZP l D zm_X11_round 0 (zent 2 [.ref 0, .int x]) [] I (zF 5) (fun v J G => v = some (aRound s x) ∧ G = zF 5 ∧ zSc 5 I J) := by
  have hB1 := hC.st.2.1
  have hB2 := hC.wk.2.1
  have hB3 := hC.sg.2.1
  show ZP _ _ _ _ [some _, some _] _ _ _ _
  refine P_aload_n (pc := 0) dX11_round_0 rfl ?_
  refine P_iload_n (pc := 1) dX11_round_1 rfl ?_
  obtain ⟨_, _, _, kw1, rfl, rfl, rfl⟩ := c_isWalker11_5 (l := l) (D := D) (I := I) (x := x) (n := s 116 0) hC.wk.1 (by omega)
  refine P_callV (pc := 2) (S := []) (As := [_]) kw1 dX11_round_2 ok_X11_isWalker ml_X11_167 iv_X11_isWalker ⟨by decide, by decide⟩ (zret_b (zix x (s 116 0))) rfl ⟨rfl, by decide⟩ sh_0 ⟨by decide, rfl⟩ (Nat.le_of_ble_eq_true rfl) ?_
  refine P_if_neB (pc := 5) (tgt := 10) dX11_round_5 (by decide) (fun h5 => ?_) (fun h5 => ?_)
  · obtain ⟨i, hl_i, rfl⟩ := zix_t h5 (by omega)
    refine P_aload_n (pc := 10) dX11_round_10 rfl ?_
    refine P_iload_n (pc := 11) dX11_round_11 rfl ?_
    obtain ⟨_, K, _, ks, rfl, rfl, hK⟩ := c_send_5 (l := l) (D := D) hC hR (i := i) (by omega)
    have hTr := hK.trS hR.1.1 hR.1.2.2.1.2.1 (by have := (hC.wk.2.2 i (by omega)).2.2.1; omega)
    refine P_callV (pc := 12) (S := []) (As := [_]) ks dX11_round_12 ok_X11_send ml_X11_184 iv_X11_send ⟨by decide, by decide⟩ zret_v rfl ⟨rfl, by decide⟩ sh_0 ⟨by decide, rfl⟩ (Nat.le_of_ble_eq_true rfl) ?_
    refine P_aload_n (pc := 15) dX11_round_15 rfl ?_
    refine P_getr (pc := 16) 11 4 dX11_round_16 fl_X11_36 sh_0 fr_11_4 F_0_4 ?_
    obtain ⟨_, _, _, k2, rfl, rfl, rfl⟩ := c_firstRepeat (l := l) (D := D) (tw := 5) (T := zTw s 0 i) hTr
    refine P_callV (pc := 19) (S := []) (As := []) k2 dX11_round_19 ok_X9_firstRepeat ml_X11_207 iv_X9_firstRepeat ⟨by decide, by decide⟩ (zret_i _) rfl ⟨rfl, by decide⟩ sh_67 ⟨by decide, rfl⟩ (Nat.le_of_ble_eq_true rfl) ?_
    exact P_iret (pc := 22) dX11_round_22 (⟨by unfold aRound; rw [if_pos h5, nI_clamp (by omega)], rfl, hK.1.sc⟩)
  · refine P_iconst (pc := 8) (x := (-1)) dX11_round_8 (by decide) ?_
    exact P_iret (pc := 9) dX11_round_9 (⟨by unfold aRound; rw [if_neg (by intro z; simp_all)], rfl, zSc.rf⟩)
set_option maxRecDepth 20000 in
theorem c_way11_5 {l : Launch} {D : va_G} {I : AI} {s : Nat → Nat → Nat} (hC : CR 5 s I) (hR : RInv s) {x y : Int32} : ZP l D zm_X11_way 0 (zent 3 [.ref 0, .int x, .int y]) [] I (zF 5) (fun v J G => v = some (aWay s x y) ∧ G = zF 5 ∧ zSc 5 I J) := by
  have hB1 := hC.st.2.1
  have hB2 := hC.wk.2.1
  have hB3 := hC.sg.2.1
  show ZP _ _ _ _ [some _, some _, some _] _ _ _ _
  refine P_aload_n (pc := 0) dX11_way_0 rfl ?_
  refine P_iload_n (pc := 1) dX11_way_1 rfl ?_
  obtain ⟨_, _, _, kw1, rfl, rfl, rfl⟩ := c_isWalker11_5 (l := l) (D := D) (I := I) (x := x) (n := s 116 0) hC.wk.1 (by omega)
  refine P_callV (pc := 2) (S := []) (As := [_]) kw1 dX11_way_2 ok_X11_isWalker ml_X11_167 iv_X11_isWalker ⟨by decide, by decide⟩ (zret_b (zix x (s 116 0))) rfl ⟨rfl, by decide⟩ sh_0 ⟨by decide, rfl⟩ (Nat.le_of_ble_eq_true rfl) ?_
  refine P_if_eqB (pc := 5) (tgt := 16) dX11_way_5 (by decide) (fun h5 => ?_) (fun h5 => ?_)
  · refine P_iconst (pc := 16) (x := (-1)) dX11_way_16 (by decide) ?_
    exact P_iret (pc := 17) dX11_way_17 (⟨by unfold aWay; rw [if_neg (by intro z; simp_all)], rfl, zSc.rf⟩)
  · obtain ⟨i, hl_i, rfl⟩ := zix_t h5 (by omega)
    refine P_iload_n (pc := 8) dX11_way_8 rfl ?_
    refine P_iconst (pc := 9) (x := nI 5) dX11_way_9 (by decide) ?_
    obtain ⟨_, _, _, kw2, rfl, rfl, rfl⟩ := c_isWithin (l := l) (D := D) (tw := 5) (I := I) (x := y) (n := 5) (by omega)
    refine P_callS (pc := 10) (S := []) (As := [_, _]) kw2 dX11_way_10 ok_X11_isWithin ml_X11_180 is_X11_isWithin ⟨by decide, by decide⟩ (zret_b (zix y 5)) rfl ⟨rfl, by decide⟩ (Nat.le_of_ble_eq_true rfl) ?_
    refine P_if_neB (pc := 13) (tgt := 18) dX11_way_13 (by decide) (fun h13 => ?_) (fun h13 => ?_)
    · obtain ⟨j, hl_j, rfl⟩ := zix_t h13 (by omega)
      refine P_aload_n (pc := 18) dX11_way_18 rfl ?_
      refine P_iload_n (pc := 19) dX11_way_19 rfl ?_
      obtain ⟨_, K, _, ks, rfl, rfl, hK⟩ := c_send_5 (l := l) (D := D) hC hR (i := i) (by omega)
      have hTr := hK.trS hR.1.1 hR.1.2.2.1.2.1 (by have := (hC.wk.2.2 i (by omega)).2.2.1; omega)
      refine P_callV (pc := 20) (S := []) (As := [_]) ks dX11_way_20 ok_X11_send ml_X11_184 iv_X11_send ⟨by decide, by decide⟩ zret_v rfl ⟨rfl, by decide⟩ sh_0 ⟨by decide, rfl⟩ (Nat.le_of_ble_eq_true rfl) ?_
      refine P_iload_n (pc := 23) dX11_way_23 rfl ?_
      have hj5 : j = 0 ∨ j = 1 ∨ j = 2 ∨ j = 3 ∨ j = 4 := by omega
      rcases hj5 with rfl | rfl | rfl | rfl | rfl
      · refine P_tableIn (pc := 24) (tgt := 56) dX11_way_24 (by decide) (by decide) (by rfl) (by decide) ?_
        refine P_aload_n (pc := 56) dX11_way_56 rfl ?_
        refine P_getr (pc := 57) 11 4 dX11_way_57 fl_X11_36 sh_0 fr_11_4 F_0_4 ?_
        refine P_geti (pc := 60) 9 2 (x := nI (zTw s 0 i).1) dX11_way_60 fl_X11_191 sh_67 fi_9_2 (hK.2.1) ?_
        exact P_iret (pc := 63) dX11_way_63 (⟨by unfold aWay; rw [if_pos ⟨h5, h13⟩, nI_clamp (by omega), nI_clamp (by omega)]; rfl, rfl, hK.1.sc⟩)
      · refine P_tableIn (pc := 24) (tgt := 64) dX11_way_24 (by decide) (by decide) (by rfl) (by decide) ?_
        refine P_aload_n (pc := 64) dX11_way_64 rfl ?_
        refine P_getr (pc := 65) 11 4 dX11_way_65 fl_X11_36 sh_0 fr_11_4 F_0_4 ?_
        refine P_geti (pc := 68) 9 3 (x := nI (zTw s 0 i).2.1) dX11_way_68 fl_X11_194 sh_67 fi_9_3 (hK.2.2.1) ?_
        exact P_iret (pc := 71) dX11_way_71 (⟨by unfold aWay; rw [if_pos ⟨h5, h13⟩, nI_clamp (by omega), nI_clamp (by omega)]; rfl, rfl, hK.1.sc⟩)
      · refine P_tableIn (pc := 24) (tgt := 72) dX11_way_24 (by decide) (by decide) (by rfl) (by decide) ?_
        refine P_aload_n (pc := 72) dX11_way_72 rfl ?_
        refine P_getr (pc := 73) 11 4 dX11_way_73 fl_X11_36 sh_0 fr_11_4 F_0_4 ?_
        refine P_geti (pc := 76) 9 4 (x := nI (zTw s 0 i).2.2.1) dX11_way_76 fl_X11_197 sh_67 fi_9_4 (hK.2.2.2.1) ?_
        exact P_iret (pc := 79) dX11_way_79 (⟨by unfold aWay; rw [if_pos ⟨h5, h13⟩, nI_clamp (by omega), nI_clamp (by omega)]; rfl, rfl, hK.1.sc⟩)
      · refine P_tableIn (pc := 24) (tgt := 80) dX11_way_24 (by decide) (by decide) (by rfl) (by decide) ?_
        refine P_aload_n (pc := 80) dX11_way_80 rfl ?_
        refine P_getr (pc := 81) 11 4 dX11_way_81 fl_X11_36 sh_0 fr_11_4 F_0_4 ?_
        refine P_geti (pc := 84) 9 5 (x := nI (zTw s 0 i).2.2.2.1) dX11_way_84 fl_X11_200 sh_67 fi_9_5 (hK.2.2.2.2.1) ?_
        exact P_iret (pc := 87) dX11_way_87 (⟨by unfold aWay; rw [if_pos ⟨h5, h13⟩, nI_clamp (by omega), nI_clamp (by omega)]; rfl, rfl, hK.1.sc⟩)
      · refine P_tableOut (pc := 24) (tgt := 88) dX11_way_24 (by decide) (by decide) ?_
        refine P_aload_n (pc := 88) dX11_way_88 rfl ?_
        refine P_getr (pc := 89) 11 4 dX11_way_89 fl_X11_36 sh_0 fr_11_4 F_0_4 ?_
        refine P_geti (pc := 92) 9 6 (x := zb (decide ((zTw s 0 i).2.2.2.2.1 = s 119 i))) dX11_way_92 fl_X11_203 sh_67 fi_9_6 (hK.2.2.2.2.2.1) ?_
        refine P_if_eqB (pc := 95) (tgt := 102) dX11_way_95 (by decide) (fun h95 => ?_) (fun h95 => ?_)
        · refine P_iconst (pc := 102) (x := nI 0) dX11_way_102 (by decide) ?_
          exact P_iret (pc := 103) dX11_way_103 (⟨by unfold aWay; rw [if_pos ⟨h5, h13⟩, nI_clamp (by omega), nI_clamp (by omega)]; exact congrArg some (zb_0 h95).symm, rfl, hK.1.sc⟩)
        · refine P_iconst (pc := 98) (x := nI 1) dX11_way_98 (by decide) ?_
          refine P_goto (pc := 99) (tgt := 103) dX11_way_99 (by decide) ?_
          exact P_iret (pc := 103) dX11_way_103 (⟨by unfold aWay; rw [if_pos ⟨h5, h13⟩, nI_clamp (by omega), nI_clamp (by omega)]; exact congrArg some (zb_1 h95).symm, rfl, hK.1.sc⟩)
    · refine P_iconst (pc := 16) (x := (-1)) dX11_way_16 (by decide) ?_
      exact P_iret (pc := 17) dX11_way_17 (⟨by unfold aWay; rw [if_neg (by intro z; simp_all)], rfl, zSc.rf⟩)
set_option maxRecDepth 20000 in
theorem c_tax11_5 {l : Launch} {D : va_G} {I : AI} {s : Nat → Nat → Nat} (hC : CR 5 s I) (hR : RInv s)  : ZP l D zm_X11_tax 0 (zent 1 [.ref 0]) [] I (zF 5) (fun v J G => v = some (nI (taxAt s 0)) ∧ G = zF 5 ∧ zSc 5 I J) := by
  have hB1 := hC.st.2.1
  have hB2 := hC.wk.2.1
  have hB3 := hC.sg.2.1
  show ZP _ _ _ _ [some _] _ _ _ _
  refine P_aload_n (pc := 0) dX11_tax_0 rfl ?_
  refine P_aload_n (pc := 1) dX11_tax_1 rfl ?_
  refine P_getr (pc := 2) 11 2 dX11_tax_2 fl_X11_26 sh_0 fr_11_2 F_0_2 ?_
  refine P_getr (pc := 5) 8 1 dX11_tax_5 fl_X11_156 sh_5 fr_8_1 F_5_1 ?_
  obtain ⟨_, K, _, kt, rfl, rfl, hK⟩ := c_taxBy_5_27 (l := l) (D := D) (I := I) hC.st hC.sg hC.wk hC.rt hR.1.2.2.2.2.2 hR.1.1.2.2.1
  refine P_callV (pc := 8) (S := []) (As := [_]) kt dX11_tax_8 ok_X11_taxBy ml_X11_210 iv_X11_taxBy ⟨by decide, by decide⟩ (zret_i _) rfl ⟨rfl, by decide⟩ sh_0 ⟨by decide, rfl⟩ (Nat.le_of_ble_eq_true rfl) ?_
  exact P_iret (pc := 11) dX11_tax_11 (⟨congrArg some (congrArg nI (zSum_congr (fun i hi => by unfold zTxW zTw; simp only [Nat.zero_add]; rfl))), rfl, hK.sc⟩)
set_option maxRecDepth 20000 in
theorem c_isCorner11_36 {l : Launch} {D : va_G} {I : AI} {x : Int32} {n : Nat} (hn : I 37 0 = nI n) (hb : n < 2 ^ 31) : ZP l D zm_X11_isCorner 0 (zent 2 [.ref 0, .int x]) [] I (zF 36) (fun v J G => v = some (zb (zix x n)) ∧ I = J ∧ G = zF 36) := by
  show ZP _ _ _ _ [some _, some _] _ _ _ _
  refine P_iload_n (pc := 0) dX11_isCorner_0 rfl ?_
  refine P_aload_n (pc := 1) dX11_isCorner_1 rfl ?_
  refine P_getr (pc := 2) 11 2 dX11_isCorner_2 fl_X11_26 sh_0 fr_11_2 F_0_2 ?_
  refine P_getr (pc := 5) 8 0 dX11_isCorner_5 fl_X11_125 sh_36 fr_8_0 F_36_0 ?_
  refine P_geti (pc := 8) 6 0 (x := nI (n)) dX11_isCorner_8 fl_X11_143 sh_37 fi_6_0 (hn) ?_
  obtain ⟨_, _, _, kw1, rfl, rfl, rfl⟩ := c_isWithin (l := l) (D := D) (tw := 36) (I := I) (x := x) (n := (n)) (by omega)
  refine P_callS (pc := 11) (S := []) (As := [_, _]) kw1 dX11_isCorner_11 ok_X11_isWithin ml_X11_180 is_X11_isWithin ⟨by decide, by decide⟩ (zret_b (zix x (n))) rfl ⟨rfl, by decide⟩ (Nat.le_of_ble_eq_true rfl) ?_
  exact P_iret (pc := 14) dX11_isCorner_14 (⟨rfl, rfl, rfl⟩)
set_option maxRecDepth 20000 in
theorem c_isSign11_36 {l : Launch} {D : va_G} {I : AI} {x : Int32} {n : Nat} (hn : I 58 3 = nI n) (hb : n < 2 ^ 31) : ZP l D zm_X11_isSign 0 (zent 2 [.ref 0, .int x]) [] I (zF 36) (fun v J G => v = some (zb (zix x n)) ∧ I = J ∧ G = zF 36) := by
  show ZP _ _ _ _ [some _, some _] _ _ _ _
  refine P_iload_n (pc := 0) dX11_isSign_0 rfl ?_
  refine P_aload_n (pc := 1) dX11_isSign_1 rfl ?_
  refine P_getr (pc := 2) 11 2 dX11_isSign_2 fl_X11_26 sh_0 fr_11_2 F_0_2 ?_
  refine P_getr (pc := 5) 8 1 dX11_isSign_5 fl_X11_156 sh_36 fr_8_1 F_36_1 ?_
  refine P_geti (pc := 8) 5 3 (x := nI (n)) dX11_isSign_8 fl_X11_214 sh_58 fi_5_3 (hn) ?_
  obtain ⟨_, _, _, kw1, rfl, rfl, rfl⟩ := c_isWithin (l := l) (D := D) (tw := 36) (I := I) (x := x) (n := (n)) (by omega)
  refine P_callS (pc := 11) (S := []) (As := [_, _]) kw1 dX11_isSign_11 ok_X11_isWithin ml_X11_180 is_X11_isWithin ⟨by decide, by decide⟩ (zret_b (zix x (n))) rfl ⟨rfl, by decide⟩ (Nat.le_of_ble_eq_true rfl) ?_
  exact P_iret (pc := 14) dX11_isSign_14 (⟨rfl, rfl, rfl⟩)
set_option maxRecDepth 20000 in
theorem c_isWalker11_36 {l : Launch} {D : va_G} {I : AI} {x : Int32} {n : Nat} (hn : I 62 4 = nI n) (hb : n < 2 ^ 31) : ZP l D zm_X11_isWalker 0 (zent 2 [.ref 0, .int x]) [] I (zF 36) (fun v J G => v = some (zb (zix x n)) ∧ I = J ∧ G = zF 36) := by
  show ZP _ _ _ _ [some _, some _] _ _ _ _
  refine P_iload_n (pc := 0) dX11_isWalker_0 rfl ?_
  refine P_aload_n (pc := 1) dX11_isWalker_1 rfl ?_
  refine P_getr (pc := 2) 11 2 dX11_isWalker_2 fl_X11_26 sh_0 fr_11_2 F_0_2 ?_
  refine P_getr (pc := 5) 8 2 dX11_isWalker_5 fl_X11_116 sh_36 fr_8_2 F_36_2 ?_
  refine P_geti (pc := 8) 10 4 (x := nI (n)) dX11_isWalker_8 fl_X11_120 sh_62 fi_10_4 (hn) ?_
  obtain ⟨_, _, _, kw1, rfl, rfl, rfl⟩ := c_isWithin (l := l) (D := D) (tw := 36) (I := I) (x := x) (n := (n)) (by omega)
  refine P_callS (pc := 11) (S := []) (As := [_, _]) kw1 dX11_isWalker_11 ok_X11_isWithin ml_X11_180 is_X11_isWithin ⟨by decide, by decide⟩ (zret_b (zix x (n))) rfl ⟨rfl, by decide⟩ (Nat.le_of_ble_eq_true rfl) ?_
  exact P_iret (pc := 14) dX11_isWalker_14 (⟨rfl, rfl, rfl⟩)
set_option maxRecDepth 20000 in
theorem c_send_36 {l : Launch} {D : va_G} {I : AI} {s : Nat → Nat → Nat} (hC : CR 36 s I) (hR : RInv s) {i : Nat} (hi : i < s 116 0) : ZP l D zm_X11_send 0 (zent 3 [.ref 0, .int (nI i)]) [] I (zF 36) (fun v J G => v = none ∧ G = zF 36 ∧ zMk (zTw s 0 i) (s 119 i) I J) := by
  have hB1 := hC.st.2.1
  have hB2 := hC.wk.2.1
  have hB3 := hC.sg.2.1
  show ZP _ _ _ _ [some _, some _, none] _ _ _ _
  refine P_aload_n (pc := 0) dX11_send_0 rfl ?_
  refine P_getr (pc := 1) 11 2 dX11_send_1 fl_X11_26 sh_0 fr_11_2 F_0_2 ?_
  refine P_getr (pc := 4) 8 2 dX11_send_4 fl_X11_116 sh_36 fr_8_2 F_36_2 ?_
  refine P_astore_n (pc := 7) dX11_send_7 (by decide) rfl ?_
  refine P_aload_n (pc := 8) dX11_send_8 rfl ?_
  refine P_getr (pc := 9) 11 4 dX11_send_9 fl_X11_36 sh_0 fr_11_4 F_0_4 ?_
  refine P_aload_n (pc := 12) dX11_send_12 rfl ?_
  refine P_getr (pc := 13) 11 2 dX11_send_13 fl_X11_26 sh_0 fr_11_2 F_0_2 ?_
  refine P_aload_n (pc := 16) dX11_send_16 rfl ?_
  refine P_getr (pc := 17) 11 2 dX11_send_17 fl_X11_26 sh_0 fr_11_2 F_0_2 ?_
  refine P_getr (pc := 20) 8 1 dX11_send_20 fl_X11_156 sh_36 fr_8_1 F_36_1 ?_
  refine P_aload_n (pc := 23) dX11_send_23 rfl ?_
  refine P_getr (pc := 24) 10 0 dX11_send_24 fl_X11_170 sh_62 fr_10_0 F_62_0 ?_
  refine P_iload_n (pc := 27) dX11_send_27 rfl ?_
  refine P_iald (pc := 28) (i) (x := nI (s 117 i)) dX11_send_28 sh_63 rfl (by omega) (by decide) ((hC.wk.2.2 _ (by omega)).1.1) ?_
  refine P_aload_n (pc := 29) dX11_send_29 rfl ?_
  refine P_getr (pc := 30) 10 1 dX11_send_30 fl_X11_173 sh_62 fr_10_1 F_62_1 ?_
  refine P_iload_n (pc := 33) dX11_send_33 rfl ?_
  refine P_iald (pc := 34) (i) (x := nI (s 118 i)) dX11_send_34 sh_64 rfl (by omega) (by decide) ((hC.wk.2.2 _ (by omega)).1.2.1) ?_
  refine P_aload_n (pc := 35) dX11_send_35 rfl ?_
  refine P_getr (pc := 36) 10 2 dX11_send_36 fl_X11_176 sh_62 fr_10_2 F_62_2 ?_
  refine P_iload_n (pc := 39) dX11_send_39 rfl ?_
  refine P_iald (pc := 40) (i) (x := nI (s 119 i)) dX11_send_40 sh_65 rfl (by omega) (by decide) ((hC.wk.2.2 _ (by omega)).1.2.2.1) ?_
  refine P_aload_n (pc := 41) dX11_send_41 rfl ?_
  refine P_getr (pc := 42) 10 3 dX11_send_42 fl_X11_177 sh_62 fr_10_3 F_62_3 ?_
  refine P_iload_n (pc := 45) dX11_send_45 rfl ?_
  refine P_iald (pc := 46) (i) (x := nI (s 122 (28 + i))) dX11_send_46 sh_66 rfl (by omega) (by decide) ((hC.wk.2.2 _ (by omega)).1.2.2.2) ?_
  have hb := hC.wk.2.2 i hi
  obtain ⟨_, K, _, km, rfl, rfl, hK⟩ := c_make_36_58 (l := l) (D := D) (tw := 36) (I := I) hC.st hC.sg hC.rt (kd := s 117 i) (fm := s 118 i) (a := s 119 i) (to := s 122 (28 + i)) hR.1.2.2.2.2.2 hR.1.1.2.2.1 hb.2.1 hb.2.2.1 hb.2.2.2.1 hb.2.2.2.2
  refine P_callV (pc := 47) (S := []) (As := [_, _, _, _, _, _]) km dX11_send_47 ok_X9_make ml_X11_254 iv_X9_make ⟨by decide, by decide⟩ zret_v rfl ⟨rfl, by decide⟩ sh_67 ⟨by decide, rfl⟩ (Nat.le_of_ble_eq_true rfl) ?_
  exact P_ret (pc := 50) dX11_send_50 (⟨rfl, rfl, by unfold zTw; rw [show 0 + 28 + i = 28 + i by omega]; exact hK⟩)
set_option maxRecDepth 20000 in
theorem c_taxBy_36_58 {l : Launch} {D : va_G} {I : AI} {nc : Nat} {nr fr : Nat → Nat} (hC : CSt nc nr fr I 37 41 50) {m : Nat} {gc gt gn : Nat → Nat} {wm : Nat} {kd fm am to : Nat → Nat} (hS : CSg m gc gt gn I 58) (hW : CWk wm kd fm am to I 62) {r0 r1 r2 : Nat} (hr : I 36 3 = nI r0 ∧ I 36 4 = nI r1 ∧ I 36 5 = nI r2) (hn1 : 1 ≤ nc) (hsym : ∀ a b, a < 8 → b < 8 → nr (8 * a + b) = nr (8 * b + a)) : ZP l D zm_X11_taxBy 0 (zent 5 [.ref 0, .ref 58]) [] I (zF 36) (fun v J G => v = some (nI (zSum (fun i => (zTrip (zNx nc nr fr (fun c => zSign gc gt gn c (am i) m) (kd i) (am i)) (fun c n => zOnB nr fr c n (to i)) nr (kd i) r0 r1 r2 (am i) (fm i)).2.2.2.1) wm)) ∧ G = zF 36 ∧ zTf I J) := by
  have hw4 := hW.2.1
  have loop : ∀ (d : Nat) (i : Nat) (J : AI), wm - i < d → i ≤ wm → zTf I J → ZP l D zm_X11_taxBy 13 [some (.ref 0), some (.ref 58), some (.ref 62), some (.int (nI (zSum (fun i => (zTrip (zNx nc nr fr (fun c => zSign gc gt gn c (am i) m) (kd i) (am i)) (fun c n => zOnB nr fr c n (to i)) nr (kd i) r0 r1 r2 (am i) (fm i)).2.2.2.1) i))), some (.int (nI i))] [] J (zF 36) (fun v J G => v = some (nI (zSum (fun i => (zTrip (zNx nc nr fr (fun c => zSign gc gt gn c (am i) m) (kd i) (am i)) (fun c n => zOnB nr fr c n (to i)) nr (kd i) r0 r1 r2 (am i) (fm i)).2.2.2.1) wm)) ∧ G = zF 36 ∧ zTf I J) := by
    intro d
    induction d with
    | zero =>
      intro i J hd
      exact absurd hd (by omega)
    | succ d ih =>
      intro i J hd hi hF
      refine P_iload (pc := 13) dX11_taxBy_13 rfl ?_
      refine P_aload_n (pc := 15) dX11_taxBy_15 rfl ?_
      refine P_geti (pc := 16) 10 4 (x := nI (wm)) dX11_taxBy_16 fl_X11_120 sh_62 fi_10_4 ((congrFun (hF 62 (by decide) (by decide) (by decide)) 4).trans hW.1) ?_
      refine P_icmp_geN (pc := 19) (tgt := 78) dX11_taxBy_19 (by decide) (by omega) (by omega) (fun h19 => ?_) (fun h19 => ?_)
      · refine P_iload_n (pc := 78) dX11_taxBy_78 rfl ?_
        refine P_iret (pc := 79) dX11_taxBy_79 ?_
        have hi2 : i = wm := by omega
        subst hi2
        exact ⟨rfl, rfl, hF⟩
      · refine P_aload_n (pc := 22) dX11_taxBy_22 rfl ?_
        refine P_getr (pc := 23) 11 4 dX11_taxBy_23 fl_X11_36 sh_0 fr_11_4 F_0_4 ?_
        refine P_aload_n (pc := 26) dX11_taxBy_26 rfl ?_
        refine P_getr (pc := 27) 11 2 dX11_taxBy_27 fl_X11_26 sh_0 fr_11_2 F_0_2 ?_
        refine P_aload_n (pc := 30) dX11_taxBy_30 rfl ?_
        refine P_aload_n (pc := 31) dX11_taxBy_31 rfl ?_
        refine P_getr (pc := 32) 10 0 dX11_taxBy_32 fl_X11_170 sh_62 fr_10_0 F_62_0 ?_
        refine P_iload (pc := 35) dX11_taxBy_35 rfl ?_
        refine P_iald (pc := 37) (i) (x := nI (kd i)) dX11_taxBy_37 sh_63 rfl (by omega) (by decide) ((congrFun (hF 63 (by decide) (by decide) (by decide)) _).trans (hW.2.2 _ (by omega)).1.1) ?_
        refine P_aload_n (pc := 38) dX11_taxBy_38 rfl ?_
        refine P_getr (pc := 39) 10 1 dX11_taxBy_39 fl_X11_173 sh_62 fr_10_1 F_62_1 ?_
        refine P_iload (pc := 42) dX11_taxBy_42 rfl ?_
        refine P_iald (pc := 44) (i) (x := nI (fm i)) dX11_taxBy_44 sh_64 rfl (by omega) (by decide) ((congrFun (hF 64 (by decide) (by decide) (by decide)) _).trans (hW.2.2 _ (by omega)).1.2.1) ?_
        refine P_aload_n (pc := 45) dX11_taxBy_45 rfl ?_
        refine P_getr (pc := 46) 10 2 dX11_taxBy_46 fl_X11_176 sh_62 fr_10_2 F_62_2 ?_
        refine P_iload (pc := 49) dX11_taxBy_49 rfl ?_
        refine P_iald (pc := 51) (i) (x := nI (am i)) dX11_taxBy_51 sh_65 rfl (by omega) (by decide) ((congrFun (hF 65 (by decide) (by decide) (by decide)) _).trans (hW.2.2 _ (by omega)).1.2.2.1) ?_
        refine P_aload_n (pc := 52) dX11_taxBy_52 rfl ?_
        refine P_getr (pc := 53) 10 3 dX11_taxBy_53 fl_X11_177 sh_62 fr_10_3 F_62_3 ?_
        refine P_iload (pc := 56) dX11_taxBy_56 rfl ?_
        refine P_iald (pc := 58) (i) (x := nI (to i)) dX11_taxBy_58 sh_66 rfl (by omega) (by decide) ((congrFun (hF 66 (by decide) (by decide) (by decide)) _).trans (hW.2.2 _ (by omega)).1.2.2.2) ?_
        have hb := hW.2.2 i (by omega)
        have hrJ : J 36 3 = nI r0 ∧ J 36 4 = nI r1 ∧ J 36 5 = nI r2 := by rw [hF 36 (by decide) (by decide) (by decide)]; exact hr
        obtain ⟨_, K, _, km, rfl, rfl, hK⟩ := c_make_36_58 (l := l) (D := D) (tw := 36) (I := J) (hC.tf hF hs_36) (hS.tf hF hg_58) hrJ (kd := kd i) (fm := fm i) (a := am i) (to := to i) hn1 hsym hb.2.1 hb.2.2.1 hb.2.2.2.1 hb.2.2.2.2
        refine P_callV (pc := 59) (S := []) (As := [_, _, _, _, _, _]) km dX11_taxBy_59 ok_X9_make ml_X11_254 iv_X9_make ⟨by decide, by decide⟩ zret_v rfl ⟨rfl, by decide⟩ sh_67 ⟨by decide, rfl⟩ (Nat.le_of_ble_eq_true rfl) ?_
        refine P_iload_n (pc := 62) dX11_taxBy_62 rfl ?_
        refine P_aload_n (pc := 63) dX11_taxBy_63 rfl ?_
        refine P_getr (pc := 64) 11 4 dX11_taxBy_64 fl_X11_36 sh_0 fr_11_4 F_0_4 ?_
        refine P_geti (pc := 67) 9 5 (x := nI ((fun i => (zTrip (zNx nc nr fr (fun c => zSign gc gt gn c (am i) m) (kd i) (am i)) (fun c n => zOnB nr fr c n (to i)) nr (kd i) r0 r1 r2 (am i) (fm i)).2.2.2.1) i)) dX11_taxBy_67 fl_X11_200 sh_67 fi_9_5 (hK.2.2.2.2.1) ?_
        refine P_iaddN (pc := 70) dX11_taxBy_70 ?_
        refine P_istore_n (pc := 71) dX11_taxBy_71 (by decide) rfl ?_
        refine P_iincN (pc := 72) (c := 1) dX11_taxBy_72 rfl (by decide) (by decide) rfl ?_
        refine P_goto (pc := 75) (tgt := 13) dX11_taxBy_75 (by decide) ?_
        exact ih (i + 1) K (by omega) (by omega) (hF.trans hK.1)
  show ZP _ _ _ _ [some _, some _, none, none, none] _ _ _ _
  refine P_aload_n (pc := 0) dX11_taxBy_0 rfl ?_
  refine P_getr (pc := 1) 11 2 dX11_taxBy_1 fl_X11_26 sh_0 fr_11_2 F_0_2 ?_
  refine P_getr (pc := 4) 8 2 dX11_taxBy_4 fl_X11_116 sh_36 fr_8_2 F_36_2 ?_
  refine P_astore_n (pc := 7) dX11_taxBy_7 (by decide) rfl ?_
  refine P_iconst (pc := 8) (x := nI 0) dX11_taxBy_8 (by decide) ?_
  refine P_istore_n (pc := 9) dX11_taxBy_9 (by decide) rfl ?_
  refine P_iconst (pc := 10) (x := nI 0) dX11_taxBy_10 (by decide) ?_
  refine P_istore (pc := 11) dX11_taxBy_11 (by decide) rfl ?_
  exact loop (wm + 1) 0 I (by omega) (by omega) zTf.rf
set_option maxRecDepth 20000 in
theorem c_taxBy_36_70 {l : Launch} {D : va_G} {I : AI} {nc : Nat} {nr fr : Nat → Nat} (hC : CSt nc nr fr I 37 41 50) {m : Nat} {gc gt gn : Nat → Nat} {wm : Nat} {kd fm am to : Nat → Nat} (hS : CSg m gc gt gn I 70) (hW : CWk wm kd fm am to I 62) {r0 r1 r2 : Nat} (hr : I 36 3 = nI r0 ∧ I 36 4 = nI r1 ∧ I 36 5 = nI r2) (hn1 : 1 ≤ nc) (hsym : ∀ a b, a < 8 → b < 8 → nr (8 * a + b) = nr (8 * b + a)) : ZP l D zm_X11_taxBy 0 (zent 5 [.ref 0, .ref 70]) [] I (zF 36) (fun v J G => v = some (nI (zSum (fun i => (zTrip (zNx nc nr fr (fun c => zSign gc gt gn c (am i) m) (kd i) (am i)) (fun c n => zOnB nr fr c n (to i)) nr (kd i) r0 r1 r2 (am i) (fm i)).2.2.2.1) wm)) ∧ G = zF 36 ∧ zTf I J) := by
  have hw4 := hW.2.1
  have loop : ∀ (d : Nat) (i : Nat) (J : AI), wm - i < d → i ≤ wm → zTf I J → ZP l D zm_X11_taxBy 13 [some (.ref 0), some (.ref 70), some (.ref 62), some (.int (nI (zSum (fun i => (zTrip (zNx nc nr fr (fun c => zSign gc gt gn c (am i) m) (kd i) (am i)) (fun c n => zOnB nr fr c n (to i)) nr (kd i) r0 r1 r2 (am i) (fm i)).2.2.2.1) i))), some (.int (nI i))] [] J (zF 36) (fun v J G => v = some (nI (zSum (fun i => (zTrip (zNx nc nr fr (fun c => zSign gc gt gn c (am i) m) (kd i) (am i)) (fun c n => zOnB nr fr c n (to i)) nr (kd i) r0 r1 r2 (am i) (fm i)).2.2.2.1) wm)) ∧ G = zF 36 ∧ zTf I J) := by
    intro d
    induction d with
    | zero =>
      intro i J hd
      exact absurd hd (by omega)
    | succ d ih =>
      intro i J hd hi hF
      refine P_iload (pc := 13) dX11_taxBy_13 rfl ?_
      refine P_aload_n (pc := 15) dX11_taxBy_15 rfl ?_
      refine P_geti (pc := 16) 10 4 (x := nI (wm)) dX11_taxBy_16 fl_X11_120 sh_62 fi_10_4 ((congrFun (hF 62 (by decide) (by decide) (by decide)) 4).trans hW.1) ?_
      refine P_icmp_geN (pc := 19) (tgt := 78) dX11_taxBy_19 (by decide) (by omega) (by omega) (fun h19 => ?_) (fun h19 => ?_)
      · refine P_iload_n (pc := 78) dX11_taxBy_78 rfl ?_
        refine P_iret (pc := 79) dX11_taxBy_79 ?_
        have hi2 : i = wm := by omega
        subst hi2
        exact ⟨rfl, rfl, hF⟩
      · refine P_aload_n (pc := 22) dX11_taxBy_22 rfl ?_
        refine P_getr (pc := 23) 11 4 dX11_taxBy_23 fl_X11_36 sh_0 fr_11_4 F_0_4 ?_
        refine P_aload_n (pc := 26) dX11_taxBy_26 rfl ?_
        refine P_getr (pc := 27) 11 2 dX11_taxBy_27 fl_X11_26 sh_0 fr_11_2 F_0_2 ?_
        refine P_aload_n (pc := 30) dX11_taxBy_30 rfl ?_
        refine P_aload_n (pc := 31) dX11_taxBy_31 rfl ?_
        refine P_getr (pc := 32) 10 0 dX11_taxBy_32 fl_X11_170 sh_62 fr_10_0 F_62_0 ?_
        refine P_iload (pc := 35) dX11_taxBy_35 rfl ?_
        refine P_iald (pc := 37) (i) (x := nI (kd i)) dX11_taxBy_37 sh_63 rfl (by omega) (by decide) ((congrFun (hF 63 (by decide) (by decide) (by decide)) _).trans (hW.2.2 _ (by omega)).1.1) ?_
        refine P_aload_n (pc := 38) dX11_taxBy_38 rfl ?_
        refine P_getr (pc := 39) 10 1 dX11_taxBy_39 fl_X11_173 sh_62 fr_10_1 F_62_1 ?_
        refine P_iload (pc := 42) dX11_taxBy_42 rfl ?_
        refine P_iald (pc := 44) (i) (x := nI (fm i)) dX11_taxBy_44 sh_64 rfl (by omega) (by decide) ((congrFun (hF 64 (by decide) (by decide) (by decide)) _).trans (hW.2.2 _ (by omega)).1.2.1) ?_
        refine P_aload_n (pc := 45) dX11_taxBy_45 rfl ?_
        refine P_getr (pc := 46) 10 2 dX11_taxBy_46 fl_X11_176 sh_62 fr_10_2 F_62_2 ?_
        refine P_iload (pc := 49) dX11_taxBy_49 rfl ?_
        refine P_iald (pc := 51) (i) (x := nI (am i)) dX11_taxBy_51 sh_65 rfl (by omega) (by decide) ((congrFun (hF 65 (by decide) (by decide) (by decide)) _).trans (hW.2.2 _ (by omega)).1.2.2.1) ?_
        refine P_aload_n (pc := 52) dX11_taxBy_52 rfl ?_
        refine P_getr (pc := 53) 10 3 dX11_taxBy_53 fl_X11_177 sh_62 fr_10_3 F_62_3 ?_
        refine P_iload (pc := 56) dX11_taxBy_56 rfl ?_
        refine P_iald (pc := 58) (i) (x := nI (to i)) dX11_taxBy_58 sh_66 rfl (by omega) (by decide) ((congrFun (hF 66 (by decide) (by decide) (by decide)) _).trans (hW.2.2 _ (by omega)).1.2.2.2) ?_
        have hb := hW.2.2 i (by omega)
        have hrJ : J 36 3 = nI r0 ∧ J 36 4 = nI r1 ∧ J 36 5 = nI r2 := by rw [hF 36 (by decide) (by decide) (by decide)]; exact hr
        obtain ⟨_, K, _, km, rfl, rfl, hK⟩ := c_make_36_70 (l := l) (D := D) (tw := 36) (I := J) (hC.tf hF hs_36) (hS.tf hF hg_70) hrJ (kd := kd i) (fm := fm i) (a := am i) (to := to i) hn1 hsym hb.2.1 hb.2.2.1 hb.2.2.2.1 hb.2.2.2.2
        refine P_callV (pc := 59) (S := []) (As := [_, _, _, _, _, _]) km dX11_taxBy_59 ok_X9_make ml_X11_254 iv_X9_make ⟨by decide, by decide⟩ zret_v rfl ⟨rfl, by decide⟩ sh_67 ⟨by decide, rfl⟩ (Nat.le_of_ble_eq_true rfl) ?_
        refine P_iload_n (pc := 62) dX11_taxBy_62 rfl ?_
        refine P_aload_n (pc := 63) dX11_taxBy_63 rfl ?_
        refine P_getr (pc := 64) 11 4 dX11_taxBy_64 fl_X11_36 sh_0 fr_11_4 F_0_4 ?_
        refine P_geti (pc := 67) 9 5 (x := nI ((fun i => (zTrip (zNx nc nr fr (fun c => zSign gc gt gn c (am i) m) (kd i) (am i)) (fun c n => zOnB nr fr c n (to i)) nr (kd i) r0 r1 r2 (am i) (fm i)).2.2.2.1) i)) dX11_taxBy_67 fl_X11_200 sh_67 fi_9_5 (hK.2.2.2.2.1) ?_
        refine P_iaddN (pc := 70) dX11_taxBy_70 ?_
        refine P_istore_n (pc := 71) dX11_taxBy_71 (by decide) rfl ?_
        refine P_iincN (pc := 72) (c := 1) dX11_taxBy_72 rfl (by decide) (by decide) rfl ?_
        refine P_goto (pc := 75) (tgt := 13) dX11_taxBy_75 (by decide) ?_
        exact ih (i + 1) K (by omega) (by omega) (hF.trans hK.1)
  show ZP _ _ _ _ [some _, some _, none, none, none] _ _ _ _
  refine P_aload_n (pc := 0) dX11_taxBy_0 rfl ?_
  refine P_getr (pc := 1) 11 2 dX11_taxBy_1 fl_X11_26 sh_0 fr_11_2 F_0_2 ?_
  refine P_getr (pc := 4) 8 2 dX11_taxBy_4 fl_X11_116 sh_36 fr_8_2 F_36_2 ?_
  refine P_astore_n (pc := 7) dX11_taxBy_7 (by decide) rfl ?_
  refine P_iconst (pc := 8) (x := nI 0) dX11_taxBy_8 (by decide) ?_
  refine P_istore_n (pc := 9) dX11_taxBy_9 (by decide) rfl ?_
  refine P_iconst (pc := 10) (x := nI 0) dX11_taxBy_10 (by decide) ?_
  refine P_istore (pc := 11) dX11_taxBy_11 (by decide) rfl ?_
  exact loop (wm + 1) 0 I (by omega) (by omega) zTf.rf
set_option maxRecDepth 20000 in
theorem c_far11_36 {l : Launch} {D : va_G} {I : AI} {s : Nat → Nat → Nat} (hC : CR 36 s I) (hR : RInv s) {x y : Int32} : ZP l D zm_X11_far 0 (zent 3 [.ref 0, .int x, .int y]) [] I (zF 36) (fun v J G => v = some (aFar s x y) ∧ I = J ∧ G = zF 36) := by
  have hB1 := hC.st.2.1
  have hB2 := hC.wk.2.1
  have hB3 := hC.sg.2.1
  show ZP _ _ _ _ [some _, some _, some _] _ _ _ _
  refine P_aload_n (pc := 0) dX11_far_0 rfl ?_
  refine P_iload_n (pc := 1) dX11_far_1 rfl ?_
  obtain ⟨_, _, _, kw1, rfl, rfl, rfl⟩ := c_isCorner11_36 (l := l) (D := D) (I := I) (x := x) (n := s 111 0) hC.st.1 (by omega)
  refine P_callV (pc := 2) (S := []) (As := [_]) kw1 dX11_far_2 ok_X11_isCorner ml_X11_146 iv_X11_isCorner ⟨by decide, by decide⟩ (zret_b (zix x (s 111 0))) rfl ⟨rfl, by decide⟩ sh_0 ⟨by decide, rfl⟩ (Nat.le_of_ble_eq_true rfl) ?_
  refine P_if_eqB (pc := 5) (tgt := 16) dX11_far_5 (by decide) (fun h5 => ?_) (fun h5 => ?_)
  · refine P_iconst (pc := 16) (x := (-1)) dX11_far_16 (by decide) ?_
    exact P_iret (pc := 17) dX11_far_17 (⟨by unfold aFar; rw [if_neg (by intro z; simp_all)], rfl, rfl⟩)
  · obtain ⟨i, hl_i, rfl⟩ := zix_t h5 (by omega)
    refine P_aload_n (pc := 8) dX11_far_8 rfl ?_
    refine P_iload_n (pc := 9) dX11_far_9 rfl ?_
    obtain ⟨_, _, _, kw2, rfl, rfl, rfl⟩ := c_isCorner11_36 (l := l) (D := D) (I := I) (x := y) (n := s 111 0) hC.st.1 (by omega)
    refine P_callV (pc := 10) (S := []) (As := [_]) kw2 dX11_far_10 ok_X11_isCorner ml_X11_146 iv_X11_isCorner ⟨by decide, by decide⟩ (zret_b (zix y (s 111 0))) rfl ⟨rfl, by decide⟩ sh_0 ⟨by decide, rfl⟩ (Nat.le_of_ble_eq_true rfl) ?_
    refine P_if_neB (pc := 13) (tgt := 18) dX11_far_13 (by decide) (fun h13 => ?_) (fun h13 => ?_)
    · obtain ⟨j, hl_j, rfl⟩ := zix_t h13 (by omega)
      have b1 := hC.st.2.2.2.2.1 (8 * i + j) (by omega)
      have b2 := zln_pos b1.1
      refine P_aload_n (pc := 18) dX11_far_18 rfl ?_
      refine P_getr (pc := 19) 11 2 dX11_far_19 fl_X11_26 sh_0 fr_11_2 F_0_2 ?_
      refine P_getr (pc := 22) 8 0 dX11_far_22 fl_X11_125 sh_36 fr_8_0 F_36_0 ?_
      refine P_getr (pc := 25) 6 5 dX11_far_25 fl_X11_129 sh_37 fr_6_5 F_37_5 ?_
      refine P_iload_n (pc := 28) dX11_far_28 rfl ?_
      refine P_aald (pc := 29) (i) dX11_far_29 sh_49 (by decide) rfl (by omega) (by decide) (Fr_49 _ (by omega)) ?_
      refine P_iload_n (pc := 30) dX11_far_30 rfl ?_
      refine P_iald (pc := 31) (j) (x := zds (s 124 (8 * i + j))) dX11_far_31 (shr_50 _ (by omega)) rfl (by omega) (by decide) (hC.st.2.2.2.1 _ _ (by omega) (by omega)) ?_
      exact P_iret (pc := 32) dX11_far_32 (⟨by unfold aFar; rw [if_pos ⟨h5, h13⟩, nI_clamp (by omega), nI_clamp (by omega)]; rfl, rfl, rfl⟩)
    · refine P_iconst (pc := 16) (x := (-1)) dX11_far_16 (by decide) ?_
      exact P_iret (pc := 17) dX11_far_17 (⟨by unfold aFar; rw [if_neg (by intro z; simp_all)], rfl, rfl⟩)
set_option maxRecDepth 20000 in
theorem c_street11_36 {l : Launch} {D : va_G} {I : AI} {s : Nat → Nat → Nat} (hC : CR 36 s I) (hR : RInv s) {x y : Int32} : ZP l D zm_X11_street 0 (zent 4 [.ref 0, .int x, .int y]) [] I (zF 36) (fun v J G => v = some (aStreet s x y) ∧ I = J ∧ G = zF 36) := by
  have hB1 := hC.st.2.1
  have hB2 := hC.wk.2.1
  have hB3 := hC.sg.2.1
  show ZP _ _ _ _ [some _, some _, some _, none] _ _ _ _
  refine P_aload_n (pc := 0) dX11_street_0 rfl ?_
  refine P_iload_n (pc := 1) dX11_street_1 rfl ?_
  obtain ⟨_, _, _, kw1, rfl, rfl, rfl⟩ := c_isCorner11_36 (l := l) (D := D) (I := I) (x := x) (n := s 111 0) hC.st.1 (by omega)
  refine P_callV (pc := 2) (S := []) (As := [_]) kw1 dX11_street_2 ok_X11_isCorner ml_X11_146 iv_X11_isCorner ⟨by decide, by decide⟩ (zret_b (zix x (s 111 0))) rfl ⟨rfl, by decide⟩ sh_0 ⟨by decide, rfl⟩ (Nat.le_of_ble_eq_true rfl) ?_
  refine P_if_eqB (pc := 5) (tgt := 16) dX11_street_5 (by decide) (fun h5 => ?_) (fun h5 => ?_)
  · refine P_iconst (pc := 16) (x := (-1)) dX11_street_16 (by decide) ?_
    exact P_iret (pc := 17) dX11_street_17 (⟨by unfold aStreet; rw [if_neg (by intro z; simp_all)], rfl, rfl⟩)
  · obtain ⟨i, hl_i, rfl⟩ := zix_t h5 (by omega)
    refine P_aload_n (pc := 8) dX11_street_8 rfl ?_
    refine P_iload_n (pc := 9) dX11_street_9 rfl ?_
    obtain ⟨_, _, _, kw2, rfl, rfl, rfl⟩ := c_isCorner11_36 (l := l) (D := D) (I := I) (x := y) (n := s 111 0) hC.st.1 (by omega)
    refine P_callV (pc := 10) (S := []) (As := [_]) kw2 dX11_street_10 ok_X11_isCorner ml_X11_146 iv_X11_isCorner ⟨by decide, by decide⟩ (zret_b (zix y (s 111 0))) rfl ⟨rfl, by decide⟩ sh_0 ⟨by decide, rfl⟩ (Nat.le_of_ble_eq_true rfl) ?_
    refine P_if_neB (pc := 13) (tgt := 18) dX11_street_13 (by decide) (fun h13 => ?_) (fun h13 => ?_)
    · obtain ⟨j, hl_j, rfl⟩ := zix_t h13 (by omega)
      have b1 := hC.st.2.2.2.2.1 (8 * i + j) (by omega)
      have b2 := zln_pos b1.1
      refine P_aload_n (pc := 18) dX11_street_18 rfl ?_
      refine P_getr (pc := 19) 11 2 dX11_street_19 fl_X11_26 sh_0 fr_11_2 F_0_2 ?_
      refine P_getr (pc := 22) 8 0 dX11_street_22 fl_X11_125 sh_36 fr_8_0 F_36_0 ?_
      refine P_getr (pc := 25) 6 4 dX11_street_25 fl_X11_150 sh_37 fr_6_4 F_37_4 ?_
      refine P_iload_n (pc := 28) dX11_street_28 rfl ?_
      refine P_aald (pc := 29) (i) dX11_street_29 sh_40 (by decide) rfl (by omega) (by decide) (Fr_40 _ (by omega)) ?_
      refine P_iload_n (pc := 30) dX11_street_30 rfl ?_
      refine P_iald (pc := 31) (j) (x := nI (zln (s 123 (8 * i + j)))) dX11_street_31 (shr_41 _ (by omega)) rfl (by omega) (by decide) (hC.st.2.2.1 _ _ (by omega) (by omega)) ?_
      refine P_istore_n (pc := 32) dX11_street_32 (by decide) rfl ?_
      refine P_iload_n (pc := 33) dX11_street_33 rfl ?_
      refine P_if_le (pc := 34) (tgt := 41) dX11_street_34 (by decide) (fun h34 => ?_) (fun h34 => ?_)
      · refine P_bipush (pc := 41) (x := (-4)) dX11_street_41 (by decide) ?_
        exact P_iret (pc := 43) dX11_street_43 (⟨by unfold aStreet; rw [if_pos ⟨h5, h13⟩, nI_clamp (by omega), nI_clamp (by omega)]; rw [if_pos (by have h9 := (nI_le0 (by omega)).mp h34; omega)], rfl, rfl⟩)
      · refine P_iload_n (pc := 37) dX11_street_37 rfl ?_
        refine P_goto (pc := 38) (tgt := 43) dX11_street_38 (by decide) ?_
        exact P_iret (pc := 43) dX11_street_43 (⟨by unfold aStreet; rw [if_pos ⟨h5, h13⟩, nI_clamp (by omega), nI_clamp (by omega)]; have h9 : ¬ zln (s 123 (8 * i + j)) = 0 := fun z => h34 ((nI_le0 (by omega)).mpr z); have h8 := b2.1.mp (by omega); rw [if_neg (by omega), zln_lt h8], rfl, rfl⟩)
    · refine P_iconst (pc := 16) (x := (-1)) dX11_street_16 (by decide) ?_
      exact P_iret (pc := 17) dX11_street_17 (⟨by unfold aStreet; rw [if_neg (by intro z; simp_all)], rfl, rfl⟩)
set_option maxRecDepth 20000 in
theorem c_sign11_36 {l : Launch} {D : va_G} {I : AI} {s : Nat → Nat → Nat} (hC : CR 36 s I) (hR : RInv s) {x y : Int32} : ZP l D zm_X11_sign 0 (zent 3 [.ref 0, .int x, .int y]) [] I (zF 36) (fun v J G => v = some (aSign s x y) ∧ I = J ∧ G = zF 36) := by
  have hB1 := hC.st.2.1
  have hB2 := hC.wk.2.1
  have hB3 := hC.sg.2.1
  show ZP _ _ _ _ [some _, some _, some _] _ _ _ _
  refine P_aload_n (pc := 0) dX11_sign_0 rfl ?_
  refine P_iload_n (pc := 1) dX11_sign_1 rfl ?_
  obtain ⟨_, _, _, kw1, rfl, rfl, rfl⟩ := c_isSign11_36 (l := l) (D := D) (I := I) (x := x) (n := s 122 0) hC.sg.1 (by omega)
  refine P_callV (pc := 2) (S := []) (As := [_]) kw1 dX11_sign_2 ok_X11_isSign ml_X11_153 iv_X11_isSign ⟨by decide, by decide⟩ (zret_b (zix x (s 122 0))) rfl ⟨rfl, by decide⟩ sh_0 ⟨by decide, rfl⟩ (Nat.le_of_ble_eq_true rfl) ?_
  refine P_if_neB (pc := 5) (tgt := 10) dX11_sign_5 (by decide) (fun h5 => ?_) (fun h5 => ?_)
  · obtain ⟨i, hl_i, rfl⟩ := zix_t h5 (by omega)
    refine P_iload_n (pc := 10) dX11_sign_10 rfl ?_
    by_cases h9 : zix y 3 = true
    · obtain ⟨j, hj, rfl⟩ := zix_t h9 (by omega)
      have hj4 : j = 0 ∨ j = 1 ∨ j = 2 := by omega
      rcases hj4 with rfl | rfl | rfl
      · refine P_tableIn (pc := 11) (tgt := 36) dX11_sign_11 (by decide) (by decide) (by rfl) (by decide) ?_
        refine P_aload_n (pc := 36) dX11_sign_36 rfl ?_
        refine P_getr (pc := 37) 11 2 dX11_sign_37 fl_X11_26 sh_0 fr_11_2 F_0_2 ?_
        refine P_getr (pc := 40) 8 1 dX11_sign_40 fl_X11_156 sh_36 fr_8_1 F_36_1 ?_
        refine P_getr (pc := 43) 5 0 dX11_sign_43 fl_X11_159 sh_58 fr_5_0 F_58_0 ?_
        refine P_iload_n (pc := 46) dX11_sign_46 rfl ?_
        refine P_iald (pc := 47) (i) (x := nI (sgC s 0 i)) dX11_sign_47 sh_59 rfl (by omega) (by decide) ((hC.sg.2.2 _ (by omega)).1.1) ?_
        exact P_iret (pc := 48) dX11_sign_48 (⟨by unfold aSign; rw [if_pos ⟨h5, h9⟩, nI_clamp (by omega), nI_clamp (by omega)] <;> exact congrArg some (congrArg nI (congrArg (s 122) (by omega))), rfl, rfl⟩)
      · refine P_tableIn (pc := 11) (tgt := 49) dX11_sign_11 (by decide) (by decide) (by rfl) (by decide) ?_
        refine P_aload_n (pc := 49) dX11_sign_49 rfl ?_
        refine P_getr (pc := 50) 11 2 dX11_sign_50 fl_X11_26 sh_0 fr_11_2 F_0_2 ?_
        refine P_getr (pc := 53) 8 1 dX11_sign_53 fl_X11_156 sh_36 fr_8_1 F_36_1 ?_
        refine P_getr (pc := 56) 5 1 dX11_sign_56 fl_X11_161 sh_58 fr_5_1 F_58_1 ?_
        refine P_iload_n (pc := 59) dX11_sign_59 rfl ?_
        refine P_iald (pc := 60) (i) (x := nI (sgT s 0 i)) dX11_sign_60 sh_60 rfl (by omega) (by decide) ((hC.sg.2.2 _ (by omega)).1.2.1) ?_
        exact P_iret (pc := 61) dX11_sign_61 (⟨by unfold aSign; rw [if_pos ⟨h5, h9⟩, nI_clamp (by omega), nI_clamp (by omega)] <;> exact congrArg some (congrArg nI (congrArg (s 122) (by omega))), rfl, rfl⟩)
      · refine P_tableIn (pc := 11) (tgt := 62) dX11_sign_11 (by decide) (by decide) (by rfl) (by decide) ?_
        refine P_aload_n (pc := 62) dX11_sign_62 rfl ?_
        refine P_getr (pc := 63) 11 2 dX11_sign_63 fl_X11_26 sh_0 fr_11_2 F_0_2 ?_
        refine P_getr (pc := 66) 8 1 dX11_sign_66 fl_X11_156 sh_36 fr_8_1 F_36_1 ?_
        refine P_getr (pc := 69) 5 2 dX11_sign_69 fl_X11_164 sh_58 fr_5_2 F_58_2 ?_
        refine P_iload_n (pc := 72) dX11_sign_72 rfl ?_
        refine P_iald (pc := 73) (i) (x := nI (sgN s 0 i)) dX11_sign_73 sh_61 rfl (by omega) (by decide) ((hC.sg.2.2 _ (by omega)).1.2.2) ?_
        exact P_iret (pc := 74) dX11_sign_74 (⟨by unfold aSign; rw [if_pos ⟨h5, h9⟩, nI_clamp (by omega), nI_clamp (by omega)] <;> exact congrArg some (congrArg nI (congrArg (s 122) (by omega))), rfl, rfl⟩)
    · refine P_tableOut (pc := 11) (tgt := 75) dX11_sign_11 (by have h8 := of_decide_eq_false (by simpa using h9 : zix y 3 = false); omega) (by decide) ?_
      refine P_iconst (pc := 75) (x := (-1)) dX11_sign_75 (by decide) ?_
      exact P_iret (pc := 76) dX11_sign_76 (⟨by unfold aSign; rw [if_neg (by intro z; simp_all)], rfl, rfl⟩)
  · refine P_iconst (pc := 8) (x := (-1)) dX11_sign_8 (by decide) ?_
    exact P_iret (pc := 9) dX11_sign_9 (⟨by unfold aSign; rw [if_neg (by intro z; simp_all)], rfl, rfl⟩)
set_option maxRecDepth 20000 in
theorem c_walker11_36 {l : Launch} {D : va_G} {I : AI} {s : Nat → Nat → Nat} (hC : CR 36 s I) (hR : RInv s) {x y : Int32} : ZP l D zm_X11_walker 0 (zent 3 [.ref 0, .int x, .int y]) [] I (zF 36) (fun v J G => v = some (aWalker s x y) ∧ I = J ∧ G = zF 36) := by
  have hB1 := hC.st.2.1
  have hB2 := hC.wk.2.1
  have hB3 := hC.sg.2.1
  show ZP _ _ _ _ [some _, some _, some _] _ _ _ _
  refine P_aload_n (pc := 0) dX11_walker_0 rfl ?_
  refine P_iload_n (pc := 1) dX11_walker_1 rfl ?_
  obtain ⟨_, _, _, kw1, rfl, rfl, rfl⟩ := c_isWalker11_36 (l := l) (D := D) (I := I) (x := x) (n := s 116 0) hC.wk.1 (by omega)
  refine P_callV (pc := 2) (S := []) (As := [_]) kw1 dX11_walker_2 ok_X11_isWalker ml_X11_167 iv_X11_isWalker ⟨by decide, by decide⟩ (zret_b (zix x (s 116 0))) rfl ⟨rfl, by decide⟩ sh_0 ⟨by decide, rfl⟩ (Nat.le_of_ble_eq_true rfl) ?_
  refine P_if_neB (pc := 5) (tgt := 10) dX11_walker_5 (by decide) (fun h5 => ?_) (fun h5 => ?_)
  · obtain ⟨i, hl_i, rfl⟩ := zix_t h5 (by omega)
    refine P_iload_n (pc := 10) dX11_walker_10 rfl ?_
    by_cases h9 : zix y 4 = true
    · obtain ⟨j, hj, rfl⟩ := zix_t h9 (by omega)
      have hj4 : j = 0 ∨ j = 1 ∨ j = 2 ∨ j = 3 := by omega
      rcases hj4 with rfl | rfl | rfl | rfl
      · refine P_tableIn (pc := 11) (tgt := 40) dX11_walker_11 (by decide) (by decide) (by rfl) (by decide) ?_
        refine P_aload_n (pc := 40) dX11_walker_40 rfl ?_
        refine P_getr (pc := 41) 11 2 dX11_walker_41 fl_X11_26 sh_0 fr_11_2 F_0_2 ?_
        refine P_getr (pc := 44) 8 2 dX11_walker_44 fl_X11_116 sh_36 fr_8_2 F_36_2 ?_
        refine P_getr (pc := 47) 10 0 dX11_walker_47 fl_X11_170 sh_62 fr_10_0 F_62_0 ?_
        refine P_iload_n (pc := 50) dX11_walker_50 rfl ?_
        refine P_iald (pc := 51) (i) (x := nI (s 117 i)) dX11_walker_51 sh_63 rfl (by omega) (by decide) ((hC.wk.2.2 _ (by omega)).1.1) ?_
        exact P_iret (pc := 52) dX11_walker_52 (⟨by unfold aWalker; rw [if_pos ⟨h5, h9⟩, nI_clamp (by omega), nI_clamp (by omega)]; rfl, rfl, rfl⟩)
      · refine P_tableIn (pc := 11) (tgt := 53) dX11_walker_11 (by decide) (by decide) (by rfl) (by decide) ?_
        refine P_aload_n (pc := 53) dX11_walker_53 rfl ?_
        refine P_getr (pc := 54) 11 2 dX11_walker_54 fl_X11_26 sh_0 fr_11_2 F_0_2 ?_
        refine P_getr (pc := 57) 8 2 dX11_walker_57 fl_X11_116 sh_36 fr_8_2 F_36_2 ?_
        refine P_getr (pc := 60) 10 1 dX11_walker_60 fl_X11_173 sh_62 fr_10_1 F_62_1 ?_
        refine P_iload_n (pc := 63) dX11_walker_63 rfl ?_
        refine P_iald (pc := 64) (i) (x := nI (s 118 i)) dX11_walker_64 sh_64 rfl (by omega) (by decide) ((hC.wk.2.2 _ (by omega)).1.2.1) ?_
        exact P_iret (pc := 65) dX11_walker_65 (⟨by unfold aWalker; rw [if_pos ⟨h5, h9⟩, nI_clamp (by omega), nI_clamp (by omega)]; rfl, rfl, rfl⟩)
      · refine P_tableIn (pc := 11) (tgt := 66) dX11_walker_11 (by decide) (by decide) (by rfl) (by decide) ?_
        refine P_aload_n (pc := 66) dX11_walker_66 rfl ?_
        refine P_getr (pc := 67) 11 2 dX11_walker_67 fl_X11_26 sh_0 fr_11_2 F_0_2 ?_
        refine P_getr (pc := 70) 8 2 dX11_walker_70 fl_X11_116 sh_36 fr_8_2 F_36_2 ?_
        refine P_getr (pc := 73) 10 2 dX11_walker_73 fl_X11_176 sh_62 fr_10_2 F_62_2 ?_
        refine P_iload_n (pc := 76) dX11_walker_76 rfl ?_
        refine P_iald (pc := 77) (i) (x := nI (s 119 i)) dX11_walker_77 sh_65 rfl (by omega) (by decide) ((hC.wk.2.2 _ (by omega)).1.2.2.1) ?_
        exact P_iret (pc := 78) dX11_walker_78 (⟨by unfold aWalker; rw [if_pos ⟨h5, h9⟩, nI_clamp (by omega), nI_clamp (by omega)]; rfl, rfl, rfl⟩)
      · refine P_tableIn (pc := 11) (tgt := 79) dX11_walker_11 (by decide) (by decide) (by rfl) (by decide) ?_
        refine P_aload_n (pc := 79) dX11_walker_79 rfl ?_
        refine P_getr (pc := 80) 11 2 dX11_walker_80 fl_X11_26 sh_0 fr_11_2 F_0_2 ?_
        refine P_getr (pc := 83) 8 2 dX11_walker_83 fl_X11_116 sh_36 fr_8_2 F_36_2 ?_
        refine P_getr (pc := 86) 10 3 dX11_walker_86 fl_X11_177 sh_62 fr_10_3 F_62_3 ?_
        refine P_iload_n (pc := 89) dX11_walker_89 rfl ?_
        refine P_iald (pc := 90) (i) (x := nI (s 122 (28 + i))) dX11_walker_90 sh_66 rfl (by omega) (by decide) ((hC.wk.2.2 _ (by omega)).1.2.2.2) ?_
        exact P_iret (pc := 91) dX11_walker_91 (⟨by unfold aWalker; rw [if_pos ⟨h5, h9⟩, nI_clamp (by omega), nI_clamp (by omega)]; rfl, rfl, rfl⟩)
    · refine P_tableOut (pc := 11) (tgt := 92) dX11_walker_11 (by have h8 := of_decide_eq_false (by simpa using h9 : zix y 4 = false); omega) (by decide) ?_
      refine P_iconst (pc := 92) (x := (-1)) dX11_walker_92 (by decide) ?_
      exact P_iret (pc := 93) dX11_walker_93 (⟨by unfold aWalker; rw [if_neg (by intro z; simp_all)], rfl, rfl⟩)
  · refine P_iconst (pc := 8) (x := (-1)) dX11_walker_8 (by decide) ?_
    exact P_iret (pc := 9) dX11_walker_9 (⟨by unfold aWalker; rw [if_neg (by intro z; simp_all)], rfl, rfl⟩)
set_option maxRecDepth 20000 in
theorem c_count11_36 {l : Launch} {D : va_G} {I : AI} {s : Nat → Nat → Nat} (hC : CR 36 s I) (hR : RInv s) {x : Int32} : ZP l D zm_X11_count 0 (zent 2 [.ref 0, .int x]) [] I (zF 36) (fun v J G => v = some (aCount s x) ∧ I = J ∧ G = zF 36) := by
  have hB1 := hC.st.2.1
  have hB2 := hC.wk.2.1
  have hB3 := hC.sg.2.1
  have hlg : I 74 6 = nI (s 109 18) := by obtain ⟨o, h1, h2, h3, h4⟩ := hC.lg; exact h3
  show ZP _ _ _ _ [some _, some _] _ _ _ _
  refine P_iload_n (pc := 0) dX11_count_0 rfl ?_
  by_cases h9 : zix x 8 = true
  · obtain ⟨j, hj, rfl⟩ := zix_t h9 (by omega)
    have hj4 : j = 0 ∨ j = 1 ∨ j = 2 ∨ j = 3 ∨ j = 4 ∨ j = 5 ∨ j = 6 ∨ j = 7 := by omega
    rcases hj4 with rfl | rfl | rfl | rfl | rfl | rfl | rfl | rfl
    · refine P_tableIn (pc := 1) (tgt := 48) dX11_count_1 (by decide) (by decide) (by rfl) (by decide) ?_
      refine P_aload_n (pc := 48) dX11_count_48 rfl ?_
      refine P_getr (pc := 49) 11 2 dX11_count_49 fl_X11_26 sh_0 fr_11_2 F_0_2 ?_
      refine P_getr (pc := 52) 8 0 dX11_count_52 fl_X11_125 sh_36 fr_8_0 F_36_0 ?_
      refine P_geti (pc := 55) 6 0 (x := nI (s 111 0)) dX11_count_55 fl_X11_143 sh_37 fi_6_0 (hC.st.1) ?_
      exact P_iret (pc := 58) dX11_count_58 (⟨by unfold aCount; rw [if_pos h9, nI_clamp (by omega)] <;> rfl, rfl, rfl⟩)
    · refine P_tableIn (pc := 1) (tgt := 59) dX11_count_1 (by decide) (by decide) (by rfl) (by decide) ?_
      refine P_aload_n (pc := 59) dX11_count_59 rfl ?_
      refine P_getr (pc := 60) 11 2 dX11_count_60 fl_X11_26 sh_0 fr_11_2 F_0_2 ?_
      refine P_getr (pc := 63) 8 0 dX11_count_63 fl_X11_125 sh_36 fr_8_0 F_36_0 ?_
      refine P_geti (pc := 66) 6 1 (x := nI (s 112 0)) dX11_count_66 fl_X11_275 sh_37 fi_6_1 (hC.sr.2.2.1) ?_
      exact P_iret (pc := 69) dX11_count_69 (⟨by unfold aCount; rw [if_pos h9, nI_clamp (by omega)] <;> rfl, rfl, rfl⟩)
    · refine P_tableIn (pc := 1) (tgt := 70) dX11_count_1 (by decide) (by decide) (by rfl) (by decide) ?_
      refine P_aload_n (pc := 70) dX11_count_70 rfl ?_
      refine P_getr (pc := 71) 11 2 dX11_count_71 fl_X11_26 sh_0 fr_11_2 F_0_2 ?_
      refine P_getr (pc := 74) 8 1 dX11_count_74 fl_X11_156 sh_36 fr_8_1 F_36_1 ?_
      refine P_geti (pc := 77) 5 3 (x := nI (s 122 0)) dX11_count_77 fl_X11_214 sh_58 fi_5_3 (hC.sg.1) ?_
      exact P_iret (pc := 80) dX11_count_80 (⟨by unfold aCount; rw [if_pos h9, nI_clamp (by omega)] <;> rfl, rfl, rfl⟩)
    · refine P_tableIn (pc := 1) (tgt := 81) dX11_count_1 (by decide) (by decide) (by rfl) (by decide) ?_
      refine P_aload_n (pc := 81) dX11_count_81 rfl ?_
      refine P_getr (pc := 82) 11 2 dX11_count_82 fl_X11_26 sh_0 fr_11_2 F_0_2 ?_
      refine P_getr (pc := 85) 8 2 dX11_count_85 fl_X11_116 sh_36 fr_8_2 F_36_2 ?_
      refine P_geti (pc := 88) 10 4 (x := nI (s 116 0)) dX11_count_88 fl_X11_120 sh_62 fi_10_4 (hC.wk.1) ?_
      exact P_iret (pc := 91) dX11_count_91 (⟨by unfold aCount; rw [if_pos h9, nI_clamp (by omega)] <;> rfl, rfl, rfl⟩)
    · refine P_tableIn (pc := 1) (tgt := 92) dX11_count_1 (by decide) (by decide) (by rfl) (by decide) ?_
      refine P_aload_n (pc := 92) dX11_count_92 rfl ?_
      refine P_getr (pc := 93) 11 8 dX11_count_93 fl_X11_64 sh_0 fr_11_8 F_0_8 ?_
      refine P_geti (pc := 96) 4 3 (x := nI (s 109 33)) dX11_count_96 fl_X11_142 sh_93 fi_4_3 (hC.se.1) ?_
      exact P_iret (pc := 99) dX11_count_99 (⟨by unfold aCount; rw [if_pos h9, nI_clamp (by omega)] <;> rfl, rfl, rfl⟩)
    · refine P_tableIn (pc := 1) (tgt := 100) dX11_count_1 (by decide) (by decide) (by rfl) (by decide) ?_
      refine P_aload_n (pc := 100) dX11_count_100 rfl ?_
      refine P_getr (pc := 101) 11 6 dX11_count_101 fl_X11_50 sh_0 fr_11_6 F_0_6 ?_
      refine P_geti (pc := 104) 0 6 (x := nI (s 109 18)) dX11_count_104 fl_X11_226 sh_74 fi_0_6 (hlg) ?_
      exact P_iret (pc := 107) dX11_count_107 (⟨by unfold aCount; rw [if_pos h9, nI_clamp (by omega)] <;> rfl, rfl, rfl⟩)
    · refine P_tableIn (pc := 1) (tgt := 108) dX11_count_1 (by decide) (by decide) (by rfl) (by decide) ?_
      refine P_aload_n (pc := 108) dX11_count_108 rfl ?_
      refine P_getr (pc := 109) 11 7 dX11_count_109 fl_X11_57 sh_0 fr_11_7 F_0_7 ?_
      refine P_geti (pc := 112) 3 2 (x := nI (s 109 19)) dX11_count_112 fl_X11_141 sh_80 fi_3_2 (hC.sf.1) ?_
      exact P_iret (pc := 115) dX11_count_115 (⟨by unfold aCount; rw [if_pos h9, nI_clamp (by omega)] <;> rfl, rfl, rfl⟩)
    · refine P_tableIn (pc := 1) (tgt := 116) dX11_count_1 (by decide) (by decide) (by rfl) (by decide) ?_
      refine P_aload_n (pc := 116) dX11_count_116 rfl ?_
      refine P_getr (pc := 117) 11 0 dX11_count_117 fl_X11_10 sh_0 fr_11_0 F_0_0 ?_
      refine P_geti (pc := 120) 7 1 (x := nI (s 109 1)) dX11_count_120 fl_X11_109 sh_1 fi_7_1 (hC.tx.1) ?_
      exact P_iret (pc := 123) dX11_count_123 (⟨by unfold aCount; rw [if_pos h9, nI_clamp (by omega)] <;> rfl, rfl, rfl⟩)
  · refine P_tableOut (pc := 1) (tgt := 124) dX11_count_1 (by have h8 := of_decide_eq_false (by simpa using h9 : zix x 8 = false); omega) (by decide) ?_
    refine P_iconst (pc := 124) (x := (-1)) dX11_count_124 (by decide) ?_
    exact P_iret (pc := 125) dX11_count_125 (⟨by unfold aCount; rw [if_neg h9], rfl, rfl⟩)
set_option maxRecDepth 20000 in
theorem c_lies11_36 {l : Launch} {D : va_G} {I : AI} {s : Nat → Nat → Nat} (hC : CR 36 s I) (hR : RInv s)  : ZP l D zm_X11_lies 0 (zent 4 [.ref 0]) [] I (zF 36) (fun v J G => v = some (aLies s) ∧ I = J ∧ G = zF 36) := by
  have hB1 := hC.st.2.1
  have hB2 := hC.wk.2.1
  have hB3 := hC.sg.2.1
  have loop : ∀ (d : Nat) (k : Nat), s 122 0 - k < d → k ≤ s 122 0 → ZP l D zm_X11_lies 12 [some (.ref 0), some (.ref 58), some (.int (zBits (zLy s) k)), some (.int (nI k))] [] I (zF 36) (fun v J G => v = some (aLies s) ∧ I = J ∧ G = zF 36) := by
    intro d
    induction d with
    | zero =>
      intro k hd
      exact absurd hd (by omega)
    | succ d ih =>
      intro k hd hk
      refine P_iload_n (pc := 12) dX11_lies_12 rfl ?_
      refine P_aload_n (pc := 13) dX11_lies_13 rfl ?_
      refine P_geti (pc := 14) 5 3 (x := nI (s 122 0)) dX11_lies_14 fl_X11_214 sh_58 fi_5_3 (hC.sg.1) ?_
      refine P_icmp_geN (pc := 17) (tgt := 63) dX11_lies_17 (by decide) (by omega) (by omega) (fun h17 => ?_) (fun h17 => ?_)
      · refine P_iload_n (pc := 63) dX11_lies_63 rfl ?_
        refine P_iret (pc := 64) dX11_lies_64 ?_
        have hk2 : k = s 122 0 := by omega
        subst hk2
        exact ⟨rfl, rfl, rfl⟩
      · have hb := hC.sg.2.2 k (by omega)
        refine P_aload_n (pc := 20) dX11_lies_20 rfl ?_
        refine P_getr (pc := 21) 11 2 dX11_lies_21 fl_X11_26 sh_0 fr_11_2 F_0_2 ?_
        refine P_getr (pc := 24) 8 0 dX11_lies_24 fl_X11_125 sh_36 fr_8_0 F_36_0 ?_
        refine P_aload_n (pc := 27) dX11_lies_27 rfl ?_
        refine P_getr (pc := 28) 5 0 dX11_lies_28 fl_X11_159 sh_58 fr_5_0 F_58_0 ?_
        refine P_iload_n (pc := 31) dX11_lies_31 rfl ?_
        refine P_iald (pc := 32) (k) (x := nI (sgC s 0 k)) dX11_lies_32 sh_59 rfl (by omega) (by decide) ((hC.sg.2.2 _ (by omega)).1.1) ?_
        refine P_aload_n (pc := 33) dX11_lies_33 rfl ?_
        refine P_getr (pc := 34) 5 2 dX11_lies_34 fl_X11_164 sh_58 fr_5_2 F_58_2 ?_
        refine P_iload_n (pc := 37) dX11_lies_37 rfl ?_
        refine P_iald (pc := 38) (k) (x := nI (sgN s 0 k)) dX11_lies_38 sh_61 rfl (by omega) (by decide) ((hC.sg.2.2 _ (by omega)).1.2.2) ?_
        refine P_aload_n (pc := 39) dX11_lies_39 rfl ?_
        refine P_getr (pc := 40) 5 1 dX11_lies_40 fl_X11_161 sh_58 fr_5_1 F_58_1 ?_
        refine P_iload_n (pc := 43) dX11_lies_43 rfl ?_
        refine P_iald (pc := 44) (k) (x := nI (sgT s 0 k)) dX11_lies_44 sh_60 rfl (by omega) (by decide) ((hC.sg.2.2 _ (by omega)).1.2.1) ?_
        obtain ⟨_, _, _, kl, rfl, rfl, rfl⟩ := c_leadsOn_36 (l := l) (D := D) (tw := 36) (I := I) hC.st (h := sgC s 0 k) (n := sgN s 0 k) (a := sgT s 0 k) hb.2.1 hb.2.2.2 hb.2.2.1
        refine P_callV (pc := 45) (S := []) (As := [_, _, _]) kl dX11_lies_45 ok_X6_leadsOn ml_X11_231 iv_X6_leadsOn ⟨by decide, by decide⟩ (zret_b (zOnB (s 123) (s 124) (sgC s 0 k) (sgN s 0 k) (sgT s 0 k))) rfl ⟨rfl, by decide⟩ sh_37 ⟨by decide, rfl⟩ (Nat.le_of_ble_eq_true rfl) ?_
        refine P_if_neB (pc := 48) (tgt := 57) dX11_lies_48 (by decide) (fun h48 => ?_) (fun h48 => ?_)
        · refine P_iincN (pc := 57) (c := 1) dX11_lies_57 rfl (by decide) (by decide) rfl ?_
          refine P_goto (pc := 60) (tgt := 12) dX11_lies_60 (by decide) ?_
          have hly := zLy_on hR.1.2.2.2.2.1 (fun k hk => (hC.st.2.2.2.2.1 k hk).1) (c := sgC s 0 k) (a := sgT s 0 k) (n := sgN s 0 k) hb.2.1 hb.2.2.1 hb.2.2.2
          have h9 := ih (k + 1) (by omega) (by omega)
          have hz : zBits (zLy s) (k + 1) = zBits (zLy s) k ||| (if zLy s k = true then nI 1 <<< (nI k &&& 31) else nI 0) := rfl
          have hl : zLy s k = (!zOnB (s 123) (s 124) (sgC s 0 k) (sgN s 0 k) (sgT s 0 k)) := by rw [hly]
          rw [hz, hl, h48] at h9
          rw [if_neg (by decide), nI_0, Int32.or_zero] at h9
          exact h9
        · refine P_iload_n (pc := 51) dX11_lies_51 rfl ?_
          refine P_iconst (pc := 52) (x := nI 1) dX11_lies_52 (by decide) ?_
          refine P_iload_n (pc := 53) dX11_lies_53 rfl ?_
          refine P_ishl (pc := 54) dX11_lies_54 ?_
          refine P_ior (pc := 55) dX11_lies_55 ?_
          refine P_istore_n (pc := 56) dX11_lies_56 (by decide) rfl ?_
          refine P_iincN (pc := 57) (c := 1) dX11_lies_57 rfl (by decide) (by decide) rfl ?_
          refine P_goto (pc := 60) (tgt := 12) dX11_lies_60 (by decide) ?_
          have hly := zLy_on hR.1.2.2.2.2.1 (fun k hk => (hC.st.2.2.2.2.1 k hk).1) (c := sgC s 0 k) (a := sgT s 0 k) (n := sgN s 0 k) hb.2.1 hb.2.2.1 hb.2.2.2
          have h9 := ih (k + 1) (by omega) (by omega)
          have hz : zBits (zLy s) (k + 1) = zBits (zLy s) k ||| (if zLy s k = true then nI 1 <<< (nI k &&& 31) else nI 0) := rfl
          have hl : zLy s k = (!zOnB (s 123) (s 124) (sgC s 0 k) (sgN s 0 k) (sgT s 0 k)) := by rw [hly]
          rw [hz, hl, h48] at h9
          rw [if_pos (show (!false) = true from rfl)] at h9
          exact h9
  show ZP _ _ _ _ [some _, none, none, none] _ _ _ _
  refine P_aload_n (pc := 0) dX11_lies_0 rfl ?_
  refine P_getr (pc := 1) 11 2 dX11_lies_1 fl_X11_26 sh_0 fr_11_2 F_0_2 ?_
  refine P_getr (pc := 4) 8 1 dX11_lies_4 fl_X11_156 sh_36 fr_8_1 F_36_1 ?_
  refine P_astore_n (pc := 7) dX11_lies_7 (by decide) rfl ?_
  refine P_iconst (pc := 8) (x := nI 0) dX11_lies_8 (by decide) ?_
  refine P_istore_n (pc := 9) dX11_lies_9 (by decide) rfl ?_
  refine P_iconst (pc := 10) (x := nI 0) dX11_lies_10 (by decide) ?_
  refine P_istore_n (pc := 11) dX11_lies_11 (by decide) rfl ?_
  exact loop (s 122 0 + 1) 0 (by omega) (by omega)
set_option maxRecDepth 20000 in
theorem c_walk11_36 {l : Launch} {D : va_G} {I : AI} {s : Nat → Nat → Nat} (hC : CR 36 s I) (hR : RInv s) {x y : Int32} : ZP l D zm_X11_walk 0 (zent 3 [.ref 0, .int x, .int y]) [] I (zF 36) (fun v J G => v = some (aWalk s x y) ∧ G = zF 36 ∧ zSc 36 I J) := by
  have hB1 := hC.st.2.1
  have hB2 := hC.wk.2.1
  have hB3 := hC.sg.2.1
  show ZP _ _ _ _ [some _, some _, some _] _ _ _ _
  refine P_aload_n (pc := 0) dX11_walk_0 rfl ?_
  refine P_iload_n (pc := 1) dX11_walk_1 rfl ?_
  obtain ⟨_, _, _, kw1, rfl, rfl, rfl⟩ := c_isWalker11_36 (l := l) (D := D) (I := I) (x := x) (n := s 116 0) hC.wk.1 (by omega)
  refine P_callV (pc := 2) (S := []) (As := [_]) kw1 dX11_walk_2 ok_X11_isWalker ml_X11_167 iv_X11_isWalker ⟨by decide, by decide⟩ (zret_b (zix x (s 116 0))) rfl ⟨rfl, by decide⟩ sh_0 ⟨by decide, rfl⟩ (Nat.le_of_ble_eq_true rfl) ?_
  refine P_if_eqB (pc := 5) (tgt := 17) dX11_walk_5 (by decide) (fun h5 => ?_) (fun h5 => ?_)
  · refine P_iconst (pc := 17) (x := (-1)) dX11_walk_17 (by decide) ?_
    exact P_iret (pc := 18) dX11_walk_18 (⟨by unfold aWalk; rw [if_neg (by intro z; simp_all)], rfl, zSc.rf⟩)
  · obtain ⟨i, hl_i, rfl⟩ := zix_t h5 (by omega)
    refine P_iload_n (pc := 8) dX11_walk_8 rfl ?_
    refine P_bipush (pc := 9) (x := nI 31) dX11_walk_9 (by decide) ?_
    obtain ⟨_, _, _, kw2, rfl, rfl, rfl⟩ := c_isWithin (l := l) (D := D) (tw := 36) (I := I) (x := y) (n := 31) (by omega)
    refine P_callS (pc := 11) (S := []) (As := [_, _]) kw2 dX11_walk_11 ok_X11_isWithin ml_X11_180 is_X11_isWithin ⟨by decide, by decide⟩ (zret_b (zix y 31)) rfl ⟨rfl, by decide⟩ (Nat.le_of_ble_eq_true rfl) ?_
    refine P_if_neB (pc := 14) (tgt := 19) dX11_walk_14 (by decide) (fun h14 => ?_) (fun h14 => ?_)
    · obtain ⟨j, hl_j, rfl⟩ := zix_t h14 (by omega)
      refine P_aload_n (pc := 19) dX11_walk_19 rfl ?_
      refine P_iload_n (pc := 20) dX11_walk_20 rfl ?_
      obtain ⟨_, K, _, ks, rfl, rfl, hK⟩ := c_send_36 (l := l) (D := D) hC hR (i := i) (by omega)
      have hTr := hK.trS hR.1.1 hR.1.2.2.1.2.1 (by have := (hC.wk.2.2 i (by omega)).2.2.1; omega)
      refine P_callV (pc := 21) (S := []) (As := [_]) ks dX11_walk_21 ok_X11_send ml_X11_184 iv_X11_send ⟨by decide, by decide⟩ zret_v rfl ⟨rfl, by decide⟩ sh_0 ⟨by decide, rfl⟩ (Nat.le_of_ble_eq_true rfl) ?_
      refine P_aload_n (pc := 24) dX11_walk_24 rfl ?_
      refine P_getr (pc := 25) 11 4 dX11_walk_25 fl_X11_36 sh_0 fr_11_4 F_0_4 ?_
      refine P_iload_n (pc := 28) dX11_walk_28 rfl ?_
      obtain ⟨_, _, _, k3, rfl, rfl, rfl⟩ := c_placeBehind (l := l) (D := D) (tw := 36) (T := zTw s 0 i) hTr (k := j) (by omega)
      refine P_callV (pc := 29) (S := []) (As := [_]) k3 dX11_walk_29 ok_X9_placeBehind ml_X11_187 iv_X9_placeBehind ⟨by decide, by decide⟩ (zret_i _) rfl ⟨rfl, by decide⟩ sh_67 ⟨by decide, rfl⟩ (Nat.le_of_ble_eq_true rfl) ?_
      exact P_iret (pc := 32) dX11_walk_32 (⟨by unfold aWalk; rw [if_pos ⟨h5, h14⟩, nI_clamp (by omega), nI_clamp (by omega)], rfl, hK.1.sc⟩)
    · refine P_iconst (pc := 17) (x := (-1)) dX11_walk_17 (by decide) ?_
      exact P_iret (pc := 18) dX11_walk_18 (⟨by unfold aWalk; rw [if_neg (by intro z; simp_all)], rfl, zSc.rf⟩)
set_option maxRecDepth 20000 in
theorem c_round11_36 {l : Launch} {D : va_G} {I : AI} {s : Nat → Nat → Nat} (hC : CR 36 s I) (hR : RInv s) {x : Int32} : ZP l D zm_X11_round 0 (zent 2 [.ref 0, .int x]) [] I (zF 36) (fun v J G => v = some (aRound s x) ∧ G = zF 36 ∧ zSc 36 I J) := by
  have hB1 := hC.st.2.1
  have hB2 := hC.wk.2.1
  have hB3 := hC.sg.2.1
  show ZP _ _ _ _ [some _, some _] _ _ _ _
  refine P_aload_n (pc := 0) dX11_round_0 rfl ?_
  refine P_iload_n (pc := 1) dX11_round_1 rfl ?_
  obtain ⟨_, _, _, kw1, rfl, rfl, rfl⟩ := c_isWalker11_36 (l := l) (D := D) (I := I) (x := x) (n := s 116 0) hC.wk.1 (by omega)
  refine P_callV (pc := 2) (S := []) (As := [_]) kw1 dX11_round_2 ok_X11_isWalker ml_X11_167 iv_X11_isWalker ⟨by decide, by decide⟩ (zret_b (zix x (s 116 0))) rfl ⟨rfl, by decide⟩ sh_0 ⟨by decide, rfl⟩ (Nat.le_of_ble_eq_true rfl) ?_
  refine P_if_neB (pc := 5) (tgt := 10) dX11_round_5 (by decide) (fun h5 => ?_) (fun h5 => ?_)
  · obtain ⟨i, hl_i, rfl⟩ := zix_t h5 (by omega)
    refine P_aload_n (pc := 10) dX11_round_10 rfl ?_
    refine P_iload_n (pc := 11) dX11_round_11 rfl ?_
    obtain ⟨_, K, _, ks, rfl, rfl, hK⟩ := c_send_36 (l := l) (D := D) hC hR (i := i) (by omega)
    have hTr := hK.trS hR.1.1 hR.1.2.2.1.2.1 (by have := (hC.wk.2.2 i (by omega)).2.2.1; omega)
    refine P_callV (pc := 12) (S := []) (As := [_]) ks dX11_round_12 ok_X11_send ml_X11_184 iv_X11_send ⟨by decide, by decide⟩ zret_v rfl ⟨rfl, by decide⟩ sh_0 ⟨by decide, rfl⟩ (Nat.le_of_ble_eq_true rfl) ?_
    refine P_aload_n (pc := 15) dX11_round_15 rfl ?_
    refine P_getr (pc := 16) 11 4 dX11_round_16 fl_X11_36 sh_0 fr_11_4 F_0_4 ?_
    obtain ⟨_, _, _, k2, rfl, rfl, rfl⟩ := c_firstRepeat (l := l) (D := D) (tw := 36) (T := zTw s 0 i) hTr
    refine P_callV (pc := 19) (S := []) (As := []) k2 dX11_round_19 ok_X9_firstRepeat ml_X11_207 iv_X9_firstRepeat ⟨by decide, by decide⟩ (zret_i _) rfl ⟨rfl, by decide⟩ sh_67 ⟨by decide, rfl⟩ (Nat.le_of_ble_eq_true rfl) ?_
    exact P_iret (pc := 22) dX11_round_22 (⟨by unfold aRound; rw [if_pos h5, nI_clamp (by omega)], rfl, hK.1.sc⟩)
  · refine P_iconst (pc := 8) (x := (-1)) dX11_round_8 (by decide) ?_
    exact P_iret (pc := 9) dX11_round_9 (⟨by unfold aRound; rw [if_neg (by intro z; simp_all)], rfl, zSc.rf⟩)
set_option maxRecDepth 20000 in
theorem c_way11_36 {l : Launch} {D : va_G} {I : AI} {s : Nat → Nat → Nat} (hC : CR 36 s I) (hR : RInv s) {x y : Int32} : ZP l D zm_X11_way 0 (zent 3 [.ref 0, .int x, .int y]) [] I (zF 36) (fun v J G => v = some (aWay s x y) ∧ G = zF 36 ∧ zSc 36 I J) := by
  have hB1 := hC.st.2.1
  have hB2 := hC.wk.2.1
  have hB3 := hC.sg.2.1
  show ZP _ _ _ _ [some _, some _, some _] _ _ _ _
  refine P_aload_n (pc := 0) dX11_way_0 rfl ?_
  refine P_iload_n (pc := 1) dX11_way_1 rfl ?_
  obtain ⟨_, _, _, kw1, rfl, rfl, rfl⟩ := c_isWalker11_36 (l := l) (D := D) (I := I) (x := x) (n := s 116 0) hC.wk.1 (by omega)
  refine P_callV (pc := 2) (S := []) (As := [_]) kw1 dX11_way_2 ok_X11_isWalker ml_X11_167 iv_X11_isWalker ⟨by decide, by decide⟩ (zret_b (zix x (s 116 0))) rfl ⟨rfl, by decide⟩ sh_0 ⟨by decide, rfl⟩ (Nat.le_of_ble_eq_true rfl) ?_
  refine P_if_eqB (pc := 5) (tgt := 16) dX11_way_5 (by decide) (fun h5 => ?_) (fun h5 => ?_)
  · refine P_iconst (pc := 16) (x := (-1)) dX11_way_16 (by decide) ?_
    exact P_iret (pc := 17) dX11_way_17 (⟨by unfold aWay; rw [if_neg (by intro z; simp_all)], rfl, zSc.rf⟩)
  · obtain ⟨i, hl_i, rfl⟩ := zix_t h5 (by omega)
    refine P_iload_n (pc := 8) dX11_way_8 rfl ?_
    refine P_iconst (pc := 9) (x := nI 5) dX11_way_9 (by decide) ?_
    obtain ⟨_, _, _, kw2, rfl, rfl, rfl⟩ := c_isWithin (l := l) (D := D) (tw := 36) (I := I) (x := y) (n := 5) (by omega)
    refine P_callS (pc := 10) (S := []) (As := [_, _]) kw2 dX11_way_10 ok_X11_isWithin ml_X11_180 is_X11_isWithin ⟨by decide, by decide⟩ (zret_b (zix y 5)) rfl ⟨rfl, by decide⟩ (Nat.le_of_ble_eq_true rfl) ?_
    refine P_if_neB (pc := 13) (tgt := 18) dX11_way_13 (by decide) (fun h13 => ?_) (fun h13 => ?_)
    · obtain ⟨j, hl_j, rfl⟩ := zix_t h13 (by omega)
      refine P_aload_n (pc := 18) dX11_way_18 rfl ?_
      refine P_iload_n (pc := 19) dX11_way_19 rfl ?_
      obtain ⟨_, K, _, ks, rfl, rfl, hK⟩ := c_send_36 (l := l) (D := D) hC hR (i := i) (by omega)
      have hTr := hK.trS hR.1.1 hR.1.2.2.1.2.1 (by have := (hC.wk.2.2 i (by omega)).2.2.1; omega)
      refine P_callV (pc := 20) (S := []) (As := [_]) ks dX11_way_20 ok_X11_send ml_X11_184 iv_X11_send ⟨by decide, by decide⟩ zret_v rfl ⟨rfl, by decide⟩ sh_0 ⟨by decide, rfl⟩ (Nat.le_of_ble_eq_true rfl) ?_
      refine P_iload_n (pc := 23) dX11_way_23 rfl ?_
      have hj5 : j = 0 ∨ j = 1 ∨ j = 2 ∨ j = 3 ∨ j = 4 := by omega
      rcases hj5 with rfl | rfl | rfl | rfl | rfl
      · refine P_tableIn (pc := 24) (tgt := 56) dX11_way_24 (by decide) (by decide) (by rfl) (by decide) ?_
        refine P_aload_n (pc := 56) dX11_way_56 rfl ?_
        refine P_getr (pc := 57) 11 4 dX11_way_57 fl_X11_36 sh_0 fr_11_4 F_0_4 ?_
        refine P_geti (pc := 60) 9 2 (x := nI (zTw s 0 i).1) dX11_way_60 fl_X11_191 sh_67 fi_9_2 (hK.2.1) ?_
        exact P_iret (pc := 63) dX11_way_63 (⟨by unfold aWay; rw [if_pos ⟨h5, h13⟩, nI_clamp (by omega), nI_clamp (by omega)]; rfl, rfl, hK.1.sc⟩)
      · refine P_tableIn (pc := 24) (tgt := 64) dX11_way_24 (by decide) (by decide) (by rfl) (by decide) ?_
        refine P_aload_n (pc := 64) dX11_way_64 rfl ?_
        refine P_getr (pc := 65) 11 4 dX11_way_65 fl_X11_36 sh_0 fr_11_4 F_0_4 ?_
        refine P_geti (pc := 68) 9 3 (x := nI (zTw s 0 i).2.1) dX11_way_68 fl_X11_194 sh_67 fi_9_3 (hK.2.2.1) ?_
        exact P_iret (pc := 71) dX11_way_71 (⟨by unfold aWay; rw [if_pos ⟨h5, h13⟩, nI_clamp (by omega), nI_clamp (by omega)]; rfl, rfl, hK.1.sc⟩)
      · refine P_tableIn (pc := 24) (tgt := 72) dX11_way_24 (by decide) (by decide) (by rfl) (by decide) ?_
        refine P_aload_n (pc := 72) dX11_way_72 rfl ?_
        refine P_getr (pc := 73) 11 4 dX11_way_73 fl_X11_36 sh_0 fr_11_4 F_0_4 ?_
        refine P_geti (pc := 76) 9 4 (x := nI (zTw s 0 i).2.2.1) dX11_way_76 fl_X11_197 sh_67 fi_9_4 (hK.2.2.2.1) ?_
        exact P_iret (pc := 79) dX11_way_79 (⟨by unfold aWay; rw [if_pos ⟨h5, h13⟩, nI_clamp (by omega), nI_clamp (by omega)]; rfl, rfl, hK.1.sc⟩)
      · refine P_tableIn (pc := 24) (tgt := 80) dX11_way_24 (by decide) (by decide) (by rfl) (by decide) ?_
        refine P_aload_n (pc := 80) dX11_way_80 rfl ?_
        refine P_getr (pc := 81) 11 4 dX11_way_81 fl_X11_36 sh_0 fr_11_4 F_0_4 ?_
        refine P_geti (pc := 84) 9 5 (x := nI (zTw s 0 i).2.2.2.1) dX11_way_84 fl_X11_200 sh_67 fi_9_5 (hK.2.2.2.2.1) ?_
        exact P_iret (pc := 87) dX11_way_87 (⟨by unfold aWay; rw [if_pos ⟨h5, h13⟩, nI_clamp (by omega), nI_clamp (by omega)]; rfl, rfl, hK.1.sc⟩)
      · refine P_tableOut (pc := 24) (tgt := 88) dX11_way_24 (by decide) (by decide) ?_
        refine P_aload_n (pc := 88) dX11_way_88 rfl ?_
        refine P_getr (pc := 89) 11 4 dX11_way_89 fl_X11_36 sh_0 fr_11_4 F_0_4 ?_
        refine P_geti (pc := 92) 9 6 (x := zb (decide ((zTw s 0 i).2.2.2.2.1 = s 119 i))) dX11_way_92 fl_X11_203 sh_67 fi_9_6 (hK.2.2.2.2.2.1) ?_
        refine P_if_eqB (pc := 95) (tgt := 102) dX11_way_95 (by decide) (fun h95 => ?_) (fun h95 => ?_)
        · refine P_iconst (pc := 102) (x := nI 0) dX11_way_102 (by decide) ?_
          exact P_iret (pc := 103) dX11_way_103 (⟨by unfold aWay; rw [if_pos ⟨h5, h13⟩, nI_clamp (by omega), nI_clamp (by omega)]; exact congrArg some (zb_0 h95).symm, rfl, hK.1.sc⟩)
        · refine P_iconst (pc := 98) (x := nI 1) dX11_way_98 (by decide) ?_
          refine P_goto (pc := 99) (tgt := 103) dX11_way_99 (by decide) ?_
          exact P_iret (pc := 103) dX11_way_103 (⟨by unfold aWay; rw [if_pos ⟨h5, h13⟩, nI_clamp (by omega), nI_clamp (by omega)]; exact congrArg some (zb_1 h95).symm, rfl, hK.1.sc⟩)
    · refine P_iconst (pc := 16) (x := (-1)) dX11_way_16 (by decide) ?_
      exact P_iret (pc := 17) dX11_way_17 (⟨by unfold aWay; rw [if_neg (by intro z; simp_all)], rfl, zSc.rf⟩)
set_option maxRecDepth 20000 in
theorem c_tax11_36 {l : Launch} {D : va_G} {I : AI} {s : Nat → Nat → Nat} (hC : CR 36 s I) (hR : RInv s)  : ZP l D zm_X11_tax 0 (zent 1 [.ref 0]) [] I (zF 36) (fun v J G => v = some (nI (taxAt s 0)) ∧ G = zF 36 ∧ zSc 36 I J) := by
  have hB1 := hC.st.2.1
  have hB2 := hC.wk.2.1
  have hB3 := hC.sg.2.1
  show ZP _ _ _ _ [some _] _ _ _ _
  refine P_aload_n (pc := 0) dX11_tax_0 rfl ?_
  refine P_aload_n (pc := 1) dX11_tax_1 rfl ?_
  refine P_getr (pc := 2) 11 2 dX11_tax_2 fl_X11_26 sh_0 fr_11_2 F_0_2 ?_
  refine P_getr (pc := 5) 8 1 dX11_tax_5 fl_X11_156 sh_36 fr_8_1 F_36_1 ?_
  obtain ⟨_, K, _, kt, rfl, rfl, hK⟩ := c_taxBy_36_58 (l := l) (D := D) (I := I) hC.st hC.sg hC.wk hC.rt hR.1.2.2.2.2.2 hR.1.1.2.2.1
  refine P_callV (pc := 8) (S := []) (As := [_]) kt dX11_tax_8 ok_X11_taxBy ml_X11_210 iv_X11_taxBy ⟨by decide, by decide⟩ (zret_i _) rfl ⟨rfl, by decide⟩ sh_0 ⟨by decide, rfl⟩ (Nat.le_of_ble_eq_true rfl) ?_
  exact P_iret (pc := 11) dX11_tax_11 (⟨congrArg some (congrArg nI (zSum_congr (fun i hi => by unfold zTxW zTw; simp only [Nat.zero_add]; rfl))), rfl, hK.sc⟩)
