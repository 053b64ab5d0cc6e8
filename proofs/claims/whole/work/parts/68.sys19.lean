/-- the reference's cells stay -/
def zHg (I J : AI) : Prop := ∀ a, 109 ≤ a → J a = I a
theorem zHg.rf {I : AI} : zHg I I := fun _ _ => rfl
theorem zSc.hg {t : Nat} {I J : AI} (h : zSc t I J) (ht : t = 5 ∨ t = 36) : zHg I J := fun a ha => h a (by omega)
set_option maxRecDepth 20000 in
theorem c_put11_5 {l : Launch} {D : va_G} {I : AI} {s : Nat → Nat → Nat} (hC : CR 5 s I) (hR : RInv s) {x y z : Int32} : ZP l D zm_X11_put 0 (zent 4 [.ref 0, .int x, .int y, .int z]) [] I (zF 5) (fun v J G => v = some (aPut s x y z) ∧ G = zF 5 ∧ CR 5 (nPut s x y z) J ∧ zHg I J) := by
  have hB1 := hC.st.2.1
  have hB2 := hC.wk.2.1
  have hB3 := hC.sg.2.1
  obtain ⟨o, ho8, ho, hd, hd8, hE⟩ := hC.lg
  have hm8 := hR.1.2.2.1.1
  show ZP _ _ _ _ [some _, some _, some _, some _] _ _ _ _
  refine P_aload_n (pc := 0) dX11_put_0 rfl ?_
  refine P_iload_n (pc := 1) dX11_put_1 rfl ?_
  obtain ⟨_, _, _, kw1, rfl, rfl, rfl⟩ := c_isCorner11_5 (l := l) (D := D) (I := I) (x := x) (n := s 111 0) hC.st.1 (by omega)
  refine P_callV (pc := 2) (S := []) (As := [_]) kw1 dX11_put_2 ok_X11_isCorner ml_X11_146 iv_X11_isCorner ⟨by decide, by decide⟩ (zret_b (zix x (s 111 0))) rfl ⟨rfl, by decide⟩ sh_0 ⟨by decide, rfl⟩ (Nat.le_of_ble_eq_true rfl) ?_
  refine P_if_eqB (pc := 5) (tgt := 24) dX11_put_5 (by decide) (fun h5 => ?_) (fun h5 => ?_)
  · refine P_iconst (pc := 24) (x := (-1)) dX11_put_24 (by decide) ?_
    exact P_iret (pc := 25) dX11_put_25 (⟨by unfold aPut; rw [if_neg (by intro z; simp_all)], rfl, by unfold nPut; rw [if_neg (by intro z; simp_all)]; exact hC, zHg.rf⟩)
  · obtain ⟨i, hl_i, rfl⟩ := zix_t h5 (by omega)
    refine P_aload_n (pc := 8) dX11_put_8 rfl ?_
    refine P_iload_n (pc := 9) dX11_put_9 rfl ?_
    obtain ⟨_, _, _, kw2, rfl, rfl, rfl⟩ := c_isCorner11_5 (l := l) (D := D) (I := I) (x := y) (n := s 111 0) hC.st.1 (by omega)
    refine P_callV (pc := 10) (S := []) (As := [_]) kw2 dX11_put_10 ok_X11_isCorner ml_X11_146 iv_X11_isCorner ⟨by decide, by decide⟩ (zret_b (zix y (s 111 0))) rfl ⟨rfl, by decide⟩ sh_0 ⟨by decide, rfl⟩ (Nat.le_of_ble_eq_true rfl) ?_
    refine P_if_eqB (pc := 13) (tgt := 24) dX11_put_13 (by decide) (fun h13 => ?_) (fun h13 => ?_)
    · refine P_iconst (pc := 24) (x := (-1)) dX11_put_24 (by decide) ?_
      exact P_iret (pc := 25) dX11_put_25 (⟨by unfold aPut; rw [if_neg (by intro z; simp_all)], rfl, by unfold nPut; rw [if_neg (by intro z; simp_all)]; exact hC, zHg.rf⟩)
    · obtain ⟨j, hl_j, rfl⟩ := zix_t h13 (by omega)
      refine P_aload_n (pc := 16) dX11_put_16 rfl ?_
      refine P_iload_n (pc := 17) dX11_put_17 rfl ?_
      obtain ⟨_, _, _, kw3, rfl, rfl, rfl⟩ := c_isCorner11_5 (l := l) (D := D) (I := I) (x := z) (n := s 111 0) hC.st.1 (by omega)
      refine P_callV (pc := 18) (S := []) (As := [_]) kw3 dX11_put_18 ok_X11_isCorner ml_X11_146 iv_X11_isCorner ⟨by decide, by decide⟩ (zret_b (zix z (s 111 0))) rfl ⟨rfl, by decide⟩ sh_0 ⟨by decide, rfl⟩ (Nat.le_of_ble_eq_true rfl) ?_
      refine P_if_neB (pc := 21) (tgt := 26) dX11_put_21 (by decide) (fun h21 => ?_) (fun h21 => ?_)
      · obtain ⟨k, hl_k, rfl⟩ := zix_t h21 (by omega)
        refine P_aload_n (pc := 26) dX11_put_26 rfl ?_
        refine P_getr (pc := 27) 11 2 dX11_put_27 fl_X11_26 sh_0 fr_11_2 F_0_2 ?_
        refine P_getr (pc := 30) 8 1 dX11_put_30 fl_X11_156 sh_5 fr_8_1 F_5_1 ?_
        refine P_geti (pc := 33) 5 3 (x := nI (s 122 0)) dX11_put_33 fl_X11_214 sh_27 fi_5_3 (hC.sg.1) ?_
        refine P_bipush (pc := 36) (x := nI 8) dX11_put_36 (by decide) ?_
        refine P_icmp_ltN (pc := 38) (tgt := 44) dX11_put_38 (by decide) (by omega) (by omega) (fun h38 => ?_) (fun h38 => ?_)
        · refine P_aload_n (pc := 44) dX11_put_44 rfl ?_
          refine P_getr (pc := 45) 11 6 dX11_put_45 fl_X11_50 sh_0 fr_11_6 F_0_6 ?_
          refine P_iconst (pc := 48) (x := nI 0) dX11_put_48 (by decide) ?_
          refine P_aload_n (pc := 49) dX11_put_49 rfl ?_
          refine P_getr (pc := 50) 11 2 dX11_put_50 fl_X11_26 sh_0 fr_11_2 F_0_2 ?_
          refine P_getr (pc := 53) 8 1 dX11_put_53 fl_X11_156 sh_5 fr_8_1 F_5_1 ?_
          refine P_geti (pc := 56) 5 3 (x := nI (s 122 0)) dX11_put_56 fl_X11_214 sh_27 fi_5_3 (hC.sg.1) ?_
          refine P_iload_n (pc := 59) dX11_put_59 rfl ?_
          refine P_iload_n (pc := 60) dX11_put_60 rfl ?_
          refine P_iload_n (pc := 61) dX11_put_61 rfl ?_
          obtain ⟨_, K, _, kn, rfl, rfl, hN⟩ := c_note (l := l) (D := D) (tw := 5) (I := I) (x1 := nI 0) (x2 := nI (s 122 0)) (x3 := nI i) (x4 := nI j) (x5 := nI k) ho ho8 hd hd8
          have hKt : ∀ a, (a < 74 ∨ 79 < a) → K a = I a := hN.1
          refine P_callV (pc := 62) (S := []) (As := [_, _, _, _, _]) kn dX11_put_62 ok_X0_note ml_X11_215 iv_X0_note ⟨by decide, by decide⟩ zret_v rfl ⟨rfl, by decide⟩ sh_74 ⟨by decide, rfl⟩ (Nat.le_of_ble_eq_true rfl) ?_
          refine P_aload_n (pc := 65) dX11_put_65 rfl ?_
          refine P_getr (pc := 66) 11 2 dX11_put_66 fl_X11_26 sh_0 fr_11_2 F_0_2 ?_
          refine P_getr (pc := 69) 8 1 dX11_put_69 fl_X11_156 sh_5 fr_8_1 F_5_1 ?_
          refine P_aload_n (pc := 72) dX11_put_72 rfl ?_
          refine P_getr (pc := 73) 11 2 dX11_put_73 fl_X11_26 sh_0 fr_11_2 F_0_2 ?_
          refine P_getr (pc := 76) 8 1 dX11_put_76 fl_X11_156 sh_5 fr_8_1 F_5_1 ?_
          refine P_geti (pc := 79) 5 3 (x := nI (s 122 0)) dX11_put_79 fl_X11_214 sh_27 fi_5_3 ((congrFun (hKt 27 (by omega)) 3).trans hC.sg.1) ?_
          refine P_iload_n (pc := 82) dX11_put_82 rfl ?_
          refine P_iload_n (pc := 83) dX11_put_83 rfl ?_
          refine P_iload_n (pc := 84) dX11_put_84 rfl ?_
          obtain ⟨_, Q, _, kq, rfl, rfl, hQ1, hQ2⟩ := c_insert_27 (l := l) (D := D) (tw := 5) (I := K) (hC.sg.eq (hKt _ (by omega)) (hKt _ (by omega)) (hKt _ (by omega)) (hKt _ (by omega))) (k := s 122 0) (c := i) (a := j) (n := k) (Nat.le_refl _) (by omega) (by omega) (by omega) (by omega)
          refine P_callV (pc := 85) (S := []) (As := [_, _, _, _]) kq dX11_put_85 ok_X5_insert ml_X11_219 iv_X5_insert ⟨by decide, by decide⟩ zret_v rfl ⟨rfl, by decide⟩ sh_27 ⟨by decide, rfl⟩ (Nat.le_of_ble_eq_true rfl) ?_
          refine P_aload_n (pc := 88) dX11_put_88 rfl ?_
          refine P_getr (pc := 89) 11 2 dX11_put_89 fl_X11_26 sh_0 fr_11_2 F_0_2 ?_
          refine P_getr (pc := 92) 8 1 dX11_put_92 fl_X11_156 sh_5 fr_8_1 F_5_1 ?_
          refine P_geti (pc := 95) 5 3 (x := nI (s 122 0 + 1)) dX11_put_95 fl_X11_214 sh_27 fi_5_3 (hQ2.1) ?_
          exact P_iret (pc := 98) dX11_put_98 (⟨by unfold aPut; rw [if_pos ⟨h5, h13, h21⟩, if_neg (by omega)], rfl, by unfold nPut; rw [if_pos ⟨⟨h5, h13, h21⟩, by omega⟩, nI_clamp (by omega), nI_clamp (by omega), nI_clamp (by omega)]; exact CR.put (Or.inl rfl) hC hR ho8 hE hN (by omega) hQ1 hQ2, fun a ha => (hQ1 a (by omega) (by omega) (by omega) (by omega)).trans (hKt a (by omega))⟩)
        · refine P_bipush (pc := 41) (x := (-3)) dX11_put_41 (by decide) ?_
          exact P_iret (pc := 43) dX11_put_43 (⟨by unfold aPut; rw [if_pos ⟨h5, h13, h21⟩, if_pos (by omega)], rfl, by unfold nPut; rw [if_neg (by intro z; exact z.2 (by omega))]; exact hC, zHg.rf⟩)
      · refine P_iconst (pc := 24) (x := (-1)) dX11_put_24 (by decide) ?_
        exact P_iret (pc := 25) dX11_put_25 (⟨by unfold aPut; rw [if_neg (by intro z; simp_all)], rfl, by unfold nPut; rw [if_neg (by intro z; simp_all)]; exact hC, zHg.rf⟩)
set_option maxRecDepth 20000 in
theorem c_take11_5 {l : Launch} {D : va_G} {I : AI} {s : Nat → Nat → Nat} (hC : CR 5 s I) (hR : RInv s) {x : Int32} : ZP l D zm_X11_take 0 (zent 3 [.ref 0, .int x]) [] I (zF 5) (fun v J G => v = some (aTake s x) ∧ G = zF 5 ∧ CR 5 (nTake s x) J ∧ zHg I J) := by
  have hB1 := hC.st.2.1
  have hB2 := hC.wk.2.1
  have hB3 := hC.sg.2.1
  obtain ⟨o, ho8, ho, hd, hd8, hE⟩ := hC.lg
  show ZP _ _ _ _ [some _, some _, none] _ _ _ _
  refine P_aload_n (pc := 0) dX11_take_0 rfl ?_
  refine P_iload_n (pc := 1) dX11_take_1 rfl ?_
  obtain ⟨_, _, _, kw1, rfl, rfl, rfl⟩ := c_isSign11_5 (l := l) (D := D) (I := I) (x := x) (n := s 122 0) hC.sg.1 (by omega)
  refine P_callV (pc := 2) (S := []) (As := [_]) kw1 dX11_take_2 ok_X11_isSign ml_X11_153 iv_X11_isSign ⟨by decide, by decide⟩ (zret_b (zix x (s 122 0))) rfl ⟨rfl, by decide⟩ sh_0 ⟨by decide, rfl⟩ (Nat.le_of_ble_eq_true rfl) ?_
  refine P_if_neB (pc := 5) (tgt := 10) dX11_take_5 (by decide) (fun h5 => ?_) (fun h5 => ?_)
  · obtain ⟨i, hl_i, rfl⟩ := zix_t h5 (by omega)
    refine P_aload_n (pc := 10) dX11_take_10 rfl ?_
    refine P_getr (pc := 11) 11 2 dX11_take_11 fl_X11_26 sh_0 fr_11_2 F_0_2 ?_
    refine P_getr (pc := 14) 8 1 dX11_take_14 fl_X11_156 sh_5 fr_8_1 F_5_1 ?_
    refine P_astore_n (pc := 17) dX11_take_17 (by decide) rfl ?_
    refine P_aload_n (pc := 18) dX11_take_18 rfl ?_
    refine P_getr (pc := 19) 11 6 dX11_take_19 fl_X11_50 sh_0 fr_11_6 F_0_6 ?_
    refine P_iconst (pc := 22) (x := nI 1) dX11_take_22 (by decide) ?_
    refine P_iload_n (pc := 23) dX11_take_23 rfl ?_
    refine P_aload_n (pc := 24) dX11_take_24 rfl ?_
    refine P_getr (pc := 25) 5 0 dX11_take_25 fl_X11_159 sh_27 fr_5_0 F_27_0 ?_
    refine P_iload_n (pc := 28) dX11_take_28 rfl ?_
    refine P_iald (pc := 29) (i) (x := nI (sgC s 0 i)) dX11_take_29 sh_28 rfl (by omega) (by decide) ((hC.sg.2.2 _ (by omega)).1.1) ?_
    refine P_aload_n (pc := 30) dX11_take_30 rfl ?_
    refine P_getr (pc := 31) 5 1 dX11_take_31 fl_X11_161 sh_27 fr_5_1 F_27_1 ?_
    refine P_iload_n (pc := 34) dX11_take_34 rfl ?_
    refine P_iald (pc := 35) (i) (x := nI (sgT s 0 i)) dX11_take_35 sh_29 rfl (by omega) (by decide) ((hC.sg.2.2 _ (by omega)).1.2.1) ?_
    refine P_aload_n (pc := 36) dX11_take_36 rfl ?_
    refine P_getr (pc := 37) 5 2 dX11_take_37 fl_X11_164 sh_27 fr_5_2 F_27_2 ?_
    refine P_iload_n (pc := 40) dX11_take_40 rfl ?_
    refine P_iald (pc := 41) (i) (x := nI (sgN s 0 i)) dX11_take_41 sh_30 rfl (by omega) (by decide) ((hC.sg.2.2 _ (by omega)).1.2.2) ?_
    obtain ⟨_, K, _, kn, rfl, rfl, hN⟩ := c_note (l := l) (D := D) (tw := 5) (I := I) (x1 := nI 1) (x2 := nI i) (x3 := nI (sgC s 0 i)) (x4 := nI (sgT s 0 i)) (x5 := nI (sgN s 0 i)) ho ho8 hd hd8
    have hKt : ∀ a, (a < 74 ∨ 79 < a) → K a = I a := hN.1
    refine P_callV (pc := 42) (S := []) (As := [_, _, _, _, _]) kn dX11_take_42 ok_X0_note ml_X11_215 iv_X0_note ⟨by decide, by decide⟩ zret_v rfl ⟨rfl, by decide⟩ sh_74 ⟨by decide, rfl⟩ (Nat.le_of_ble_eq_true rfl) ?_
    refine P_aload_n (pc := 45) dX11_take_45 rfl ?_
    refine P_iload_n (pc := 46) dX11_take_46 rfl ?_
    obtain ⟨_, Q, _, kq, rfl, rfl, hQ1, hQ2⟩ := c_remove_27 (l := l) (D := D) (tw := 5) (I := K) (hC.sg.eq (hKt _ (by omega)) (hKt _ (by omega)) (hKt _ (by omega)) (hKt _ (by omega))) (k := i) (by omega)
    refine P_callV (pc := 47) (S := []) (As := [_]) kq dX11_take_47 ok_X5_remove ml_X11_223 iv_X5_remove ⟨by decide, by decide⟩ zret_v rfl ⟨rfl, by decide⟩ sh_27 ⟨by decide, rfl⟩ (Nat.le_of_ble_eq_true rfl) ?_
    refine P_aload_n (pc := 50) dX11_take_50 rfl ?_
    refine P_geti (pc := 51) 5 3 (x := nI (s 122 0 - 1)) dX11_take_51 fl_X11_214 sh_27 fi_5_3 (hQ2.1) ?_
    exact P_iret (pc := 54) dX11_take_54 (⟨by unfold aTake; rw [if_pos h5], rfl, by unfold nTake; rw [if_pos h5, nI_clamp (by omega)]; exact CR.take (Or.inl rfl) hC hR ho8 hE hN (by omega) hQ1 hQ2, fun a ha => (hQ1 a (by omega) (by omega) (by omega) (by omega)).trans (hKt a (by omega))⟩)
  · refine P_iconst (pc := 8) (x := (-1)) dX11_take_8 (by decide) ?_
    exact P_iret (pc := 9) dX11_take_9 (⟨by unfold aTake; rw [if_neg (by intro z; simp_all)], rfl, by unfold nTake; rw [if_neg (by intro z; simp_all)]; exact hC, zHg.rf⟩)
set_option maxRecDepth 20000 in
theorem c_tell11_5 {l : Launch} {D : va_G} {I : AI} {s : Nat → Nat → Nat} (hC : CR 5 s I) (hR : RInv s) {x y : Int32} : ZP l D zm_X11_tell 0 (zent 4 [.ref 0, .int x, .int y]) [] I (zF 5) (fun v J G => v = some (aTell s x y) ∧ G = zF 5 ∧ CR 5 (nTell s x y) J ∧ zHg I J) := by
  have hB1 := hC.st.2.1
  have hB2 := hC.wk.2.1
  have hB3 := hC.sg.2.1
  obtain ⟨o, ho8, ho, hd, hd8, hE⟩ := hC.lg
  show ZP _ _ _ _ [some _, some _, some _, none] _ _ _ _
  refine P_aload_n (pc := 0) dX11_tell_0 rfl ?_
  refine P_iload_n (pc := 1) dX11_tell_1 rfl ?_
  obtain ⟨_, _, _, kw1, rfl, rfl, rfl⟩ := c_isWalker11_5 (l := l) (D := D) (I := I) (x := x) (n := s 116 0) hC.wk.1 (by omega)
  refine P_callV (pc := 2) (S := []) (As := [_]) kw1 dX11_tell_2 ok_X11_isWalker ml_X11_167 iv_X11_isWalker ⟨by decide, by decide⟩ (zret_b (zix x (s 116 0))) rfl ⟨rfl, by decide⟩ sh_0 ⟨by decide, rfl⟩ (Nat.le_of_ble_eq_true rfl) ?_
  refine P_if_eqB (pc := 5) (tgt := 16) dX11_tell_5 (by decide) (fun h5 => ?_) (fun h5 => ?_)
  · refine P_iconst (pc := 16) (x := (-1)) dX11_tell_16 (by decide) ?_
    exact P_iret (pc := 17) dX11_tell_17 (⟨by unfold aTell; rw [if_neg (by intro z; simp_all)], rfl, by unfold nTell; rw [if_neg (by intro z; simp_all)]; exact hC, zHg.rf⟩)
  · obtain ⟨i, hl_i, rfl⟩ := zix_t h5 (by omega)
    refine P_aload_n (pc := 8) dX11_tell_8 rfl ?_
    refine P_iload_n (pc := 9) dX11_tell_9 rfl ?_
    obtain ⟨_, _, _, kw2, rfl, rfl, rfl⟩ := c_isCorner11_5 (l := l) (D := D) (I := I) (x := y) (n := s 111 0) hC.st.1 (by omega)
    refine P_callV (pc := 10) (S := []) (As := [_]) kw2 dX11_tell_10 ok_X11_isCorner ml_X11_146 iv_X11_isCorner ⟨by decide, by decide⟩ (zret_b (zix y (s 111 0))) rfl ⟨rfl, by decide⟩ sh_0 ⟨by decide, rfl⟩ (Nat.le_of_ble_eq_true rfl) ?_
    refine P_if_neB (pc := 13) (tgt := 18) dX11_tell_13 (by decide) (fun h13 => ?_) (fun h13 => ?_)
    · obtain ⟨j, hl_j, rfl⟩ := zix_t h13 (by omega)
      refine P_aload_n (pc := 18) dX11_tell_18 rfl ?_
      refine P_getr (pc := 19) 11 2 dX11_tell_19 fl_X11_26 sh_0 fr_11_2 F_0_2 ?_
      refine P_getr (pc := 22) 8 2 dX11_tell_22 fl_X11_116 sh_5 fr_8_2 F_5_2 ?_
      refine P_getr (pc := 25) 10 3 dX11_tell_25 fl_X11_177 sh_31 fr_10_3 F_31_3 ?_
      refine P_iload_n (pc := 28) dX11_tell_28 rfl ?_
      refine P_iald (pc := 29) (i) (x := nI (s 122 (28 + i))) dX11_tell_29 sh_35 rfl (by omega) (by decide) ((hC.wk.2.2 _ (by omega)).1.2.2.2) ?_
      refine P_istore_n (pc := 30) dX11_tell_30 (by decide) rfl ?_
      refine P_aload_n (pc := 31) dX11_tell_31 rfl ?_
      refine P_getr (pc := 32) 11 6 dX11_tell_32 fl_X11_50 sh_0 fr_11_6 F_0_6 ?_
      refine P_iconst (pc := 35) (x := nI 2) dX11_tell_35 (by decide) ?_
      refine P_iload_n (pc := 36) dX11_tell_36 rfl ?_
      refine P_iconst (pc := 37) (x := (-1)) dX11_tell_37 (by decide) ?_
      refine P_iload_n (pc := 38) dX11_tell_38 rfl ?_
      refine P_iconst (pc := 39) (x := (-1)) dX11_tell_39 (by decide) ?_
      obtain ⟨_, K, _, kn, rfl, rfl, hN⟩ := c_note (l := l) (D := D) (tw := 5) (I := I) (x1 := nI 2) (x2 := nI i) (x3 := (-1)) (x4 := nI (s 122 (28 + i))) (x5 := (-1)) ho ho8 hd hd8
      have hKt : ∀ a, (a < 74 ∨ 79 < a) → K a = I a := hN.1
      refine P_callV (pc := 40) (S := []) (As := [_, _, _, _, _]) kn dX11_tell_40 ok_X0_note ml_X11_215 iv_X0_note ⟨by decide, by decide⟩ zret_v rfl ⟨rfl, by decide⟩ sh_74 ⟨by decide, rfl⟩ (Nat.le_of_ble_eq_true rfl) ?_
      refine P_aload_n (pc := 43) dX11_tell_43 rfl ?_
      refine P_getr (pc := 44) 11 2 dX11_tell_44 fl_X11_26 sh_0 fr_11_2 F_0_2 ?_
      refine P_getr (pc := 47) 8 2 dX11_tell_47 fl_X11_116 sh_5 fr_8_2 F_5_2 ?_
      refine P_getr (pc := 50) 10 3 dX11_tell_50 fl_X11_177 sh_31 fr_10_3 F_31_3 ?_
      refine P_iload_n (pc := 53) dX11_tell_53 rfl ?_
      refine P_iload_n (pc := 54) dX11_tell_54 rfl ?_
      refine P_iast (pc := 55) (i) dX11_tell_55 sh_35 rfl (by omega) (by decide) ?_
      refine P_iload_n (pc := 56) dX11_tell_56 rfl ?_
      exact P_iret (pc := 57) dX11_tell_57 (⟨by unfold aTell; rw [if_pos ⟨h5, h13⟩, nI_clamp (by omega)], rfl, by unfold nTell; rw [if_pos ⟨h5, h13⟩, nI_clamp (by omega), nI_clamp (by omega)]; exact CR.tell (Or.inl rfl) hC hR ho8 hE hN (by omega) (by omega), fun a ha => (zu_o _ _ (by omega)).trans (hKt a (by omega))⟩)
    · refine P_iconst (pc := 16) (x := (-1)) dX11_tell_16 (by decide) ?_
      exact P_iret (pc := 17) dX11_tell_17 (⟨by unfold aTell; rw [if_neg (by intro z; simp_all)], rfl, by unfold nTell; rw [if_neg (by intro z; simp_all)]; exact hC, zHg.rf⟩)
set_option maxRecDepth 20000 in
theorem c_undo11_5 {l : Launch} {D : va_G} {I : AI} {s : Nat → Nat → Nat} (hC : CR 5 s I) (hR : RInv s)  : ZP l D zm_X11_undo 0 (zent 1 [.ref 0]) [] I (zF 5) (fun v J G => v = some (aUndo s) ∧ G = zF 5 ∧ CR 5 (nUndo s) J ∧ zHg I J) := by
  have hB1 := hC.st.2.1
  have hB2 := hC.wk.2.1
  have hB3 := hC.sg.2.1
  obtain ⟨o, ho8, ho, hd, hd8, hE⟩ := hC.lg
  show ZP _ _ _ _ [some _] _ _ _ _
  refine P_aload_n (pc := 0) dX11_undo_0 rfl ?_
  refine P_getr (pc := 1) 11 6 dX11_undo_1 fl_X11_50 sh_0 fr_11_6 F_0_6 ?_
  refine P_geti (pc := 4) 0 6 (x := nI (s 109 18)) dX11_undo_4 fl_X11_226 sh_74 fi_0_6 (hd) ?_
  refine P_if_neN (pc := 7) (tgt := 13) dX11_undo_7 (by decide) (by omega) (fun h7 => ?_) (fun h7 => ?_)
  · have hd1 : 1 ≤ s 109 18 := by omega
    have hrv := hE (s 109 18 - 1) (by omega)
    have hblk := hR.2.2.2.2.1 (s 109 18 - 1) (by omega)
    have hnb : zNb (s 109 18) (s 109 18 - 1) = 0 := by unfold zNb; rw [if_neg (by omega)]
    rw [hnb] at hrv
    have eX : ∀ x, Bk (s 122) (32 + 32 * (s 109 18 - 1)) x = s 122 (32 + 32 * (s 109 18 - 1) + x) := fun x => rfl
    have eY : ∀ x, Bk (s 122) 0 x = s 122 x := fun x => congrArg (s 122) (Nat.zero_add x)
    have hbk := hblk.1
    rcases hrv with ⟨r1, r2, r3, r4, r5⟩ | ⟨r1, k, c, a, n, r2, r3, r4, r5, r6⟩ | ⟨r1, i, a, r2, r3, r4, r5⟩
    · refine P_aload_n (pc := 13) dX11_undo_13 rfl ?_
      refine P_getr (pc := 14) 11 6 dX11_undo_14 fl_X11_50 sh_0 fr_11_6 F_0_6 ?_
      refine P_aload_n (pc := 17) dX11_undo_17 rfl ?_
      refine P_getr (pc := 18) 11 2 dX11_undo_18 fl_X11_26 sh_0 fr_11_2 F_0_2 ?_
      have r3b : s 122 0 = s 122 (32 + 32 * (s 109 18 - 1)) + 1 := by have := r3; rw [eY, eX, Nat.add_zero] at this; exact this
      obtain ⟨_, K, _, kr, rfl, rfl, hK1, hK2, hK3, hK4⟩ := c_revert0_5 (l := l) (D := D) (tw := 5) (I := I) ho ho8 hd hd1 hd8 hC.sg (k := s 122 (32 + 32 * (s 109 18 - 1))) r1 r2 (by omega)
      have hSb : CSg (s 122 (32 + 32 * (s 109 18 - 1))) (sgC s (32 + 32 * (s 109 18 - 1))) (sgT s (32 + 32 * (s 109 18 - 1))) (sgN s (32 + 32 * (s 109 18 - 1))) K 27 := by
        rw [show s 122 0 - 1 = s 122 (32 + 32 * (s 109 18 - 1)) by omega] at hK4
        refine CSg.c hK4 (fun q hq => ?_)
        have hr4 : ∀ j, 1 ≤ j → j < 1 + 3 * s 122 (32 + 32 * (s 109 18 - 1)) → s 122 ((32 + 32 * (s 109 18 - 1)) + j) = s 122 j := fun j h1 h2 => by have := r4 j h1 h2; rw [eY, eX] at this; exact this
        unfold delN
        rw [if_pos hq, if_pos hq, if_pos hq]
        exact ⟨(congrArg (s 122) (by omega)).trans ((hr4 (1 + 3 * q) (by omega) (by omega)).trans (congrArg (s 122) (by omega))), (congrArg (s 122) (by omega)).trans ((hr4 (1 + 3 * q + 1) (by omega) (by omega)).trans (congrArg (s 122) (by omega))), (congrArg (s 122) (by omega)).trans ((hr4 (1 + 3 * q + 2) (by omega) (by omega)).trans (congrArg (s 122) (by omega)))⟩
      have hWb : CWk (s 116 0) (s 117) (s 118) (s 119) (fun i => s 122 ((32 + 32 * (s 109 18 - 1)) + 28 + i)) K 31 := CWk.c (hC.wk.eq (hK1 _ (by omega) (by omega)) (hK1 _ (by omega) (by omega)) (hK1 _ (by omega) (by omega)) (hK1 _ (by omega) (by omega)) (hK1 _ (by omega) (by omega))) (fun i hi => ⟨rfl, rfl, rfl, by have := r5 i hi; rw [eY, eX] at this; exact (congrArg (s 122) (by omega)).trans this⟩)
      have hfin := CR.undo (Or.inl rfl) hC hR hd1 ho8 hE hK2.1 hK2.2 (fun a h1 h2 => hK1 a h1 (by omega)) hSb hWb
      have h18 : K 74 6 = nI (s 109 18 - 1) := hK2.2
      have hgh : zHg I K := fun a ha => hK1 a (by omega) (by omega)
      refine P_callV (pc := 21) (S := []) (As := [_]) kr dX11_undo_21 ok_X0_revertLatest ml_X11_227 iv_X0_revertLatest ⟨by decide, by decide⟩ zret_v rfl ⟨rfl, by decide⟩ sh_74 ⟨by decide, rfl⟩ (Nat.le_of_ble_eq_true rfl) ?_
      refine P_aload_n (pc := 24) dX11_undo_24 rfl ?_
      refine P_getr (pc := 25) 11 6 dX11_undo_25 fl_X11_50 sh_0 fr_11_6 F_0_6 ?_
      refine P_geti (pc := 28) 0 6 (x := nI (s 109 18 - 1)) dX11_undo_28 fl_X11_226 sh_74 fi_0_6 (h18) ?_
      exact P_iret (pc := 31) dX11_undo_31 (⟨by unfold aUndo; rw [if_neg (by omega)], rfl, by unfold nUndo; rw [if_neg (by omega)]; exact hfin, hgh⟩)
    · refine P_aload_n (pc := 13) dX11_undo_13 rfl ?_
      refine P_getr (pc := 14) 11 6 dX11_undo_14 fl_X11_50 sh_0 fr_11_6 F_0_6 ?_
      refine P_aload_n (pc := 17) dX11_undo_17 rfl ?_
      refine P_getr (pc := 18) 11 2 dX11_undo_18 fl_X11_26 sh_0 fr_11_2 F_0_2 ?_
      have r4b : s 122 (32 + 32 * (s 109 18 - 1)) = s 122 0 + 1 := by have := r4; rw [eY, eX, Nat.add_zero] at this; exact this
      have r2k : k < s 122 (32 + 32 * (s 109 18 - 1)) := r2.1
      obtain ⟨_, K, _, kr, rfl, rfl, hK1, hK2, hK3, hK4⟩ := c_revert1_5 (l := l) (D := D) (tw := 5) (I := I) ho ho8 hd hd1 hd8 hC.sg (k := k) (c := c) (a := a) (n := n) r1 r2.2.1 ⟨r2.2.2.1, r2.2.2.2.1, r2.2.2.2.2⟩ (by omega) (by omega) r3.1 r3.2.1 r3.2.2
      have hSb : CSg (s 122 (32 + 32 * (s 109 18 - 1))) (sgC s (32 + 32 * (s 109 18 - 1))) (sgT s (32 + 32 * (s 109 18 - 1))) (sgN s (32 + 32 * (s 109 18 - 1))) K 27 := by
        rw [← r4b] at hK4
        refine CSg.c hK4 (fun q hq => ?_)
        have h5 := r5 q hq
        simp only [eX, eY] at h5
        have e1 : insN (sgC s 0) k c q = insN (fun x => s 122 (1 + 3 * x)) k c q := by unfold insN; simp only [Nat.zero_add]
        have e2 : insN (sgT s 0) k a q = insN (fun x => s 122 (1 + 3 * x + 1)) k a q := by unfold insN; simp only [Nat.zero_add]
        have e3 : insN (sgN s 0) k n q = insN (fun x => s 122 (1 + 3 * x + 2)) k n q := by unfold insN; simp only [Nat.zero_add]
        rw [e1, e2, e3]
        exact ⟨(congrArg (s 122) (by omega)).trans h5.1, (congrArg (s 122) (by omega)).trans h5.2.1, (congrArg (s 122) (by omega)).trans h5.2.2⟩
      have hWb : CWk (s 116 0) (s 117) (s 118) (s 119) (fun i => s 122 ((32 + 32 * (s 109 18 - 1)) + 28 + i)) K 31 := CWk.c (hC.wk.eq (hK1 _ (by omega) (by omega)) (hK1 _ (by omega) (by omega)) (hK1 _ (by omega) (by omega)) (hK1 _ (by omega) (by omega)) (hK1 _ (by omega) (by omega))) (fun i hi => ⟨rfl, rfl, rfl, by have := r6 i hi; rw [eY, eX] at this; exact (congrArg (s 122) (by omega)).trans this⟩)
      have hfin := CR.undo (Or.inl rfl) hC hR hd1 ho8 hE hK2.1 hK2.2 (fun a h1 h2 => hK1 a h1 (by omega)) hSb hWb
      have h18 : K 74 6 = nI (s 109 18 - 1) := hK2.2
      have hgh : zHg I K := fun a ha => hK1 a (by omega) (by omega)
      refine P_callV (pc := 21) (S := []) (As := [_]) kr dX11_undo_21 ok_X0_revertLatest ml_X11_227 iv_X0_revertLatest ⟨by decide, by decide⟩ zret_v rfl ⟨rfl, by decide⟩ sh_74 ⟨by decide, rfl⟩ (Nat.le_of_ble_eq_true rfl) ?_
      refine P_aload_n (pc := 24) dX11_undo_24 rfl ?_
      refine P_getr (pc := 25) 11 6 dX11_undo_25 fl_X11_50 sh_0 fr_11_6 F_0_6 ?_
      refine P_geti (pc := 28) 0 6 (x := nI (s 109 18 - 1)) dX11_undo_28 fl_X11_226 sh_74 fi_0_6 (h18) ?_
      exact P_iret (pc := 31) dX11_undo_31 (⟨by unfold aUndo; rw [if_neg (by omega)], rfl, by unfold nUndo; rw [if_neg (by omega)]; exact hfin, hgh⟩)
    · refine P_aload_n (pc := 13) dX11_undo_13 rfl ?_
      refine P_getr (pc := 14) 11 6 dX11_undo_14 fl_X11_50 sh_0 fr_11_6 F_0_6 ?_
      refine P_aload_n (pc := 17) dX11_undo_17 rfl ?_
      refine P_getr (pc := 18) 11 2 dX11_undo_18 fl_X11_26 sh_0 fr_11_2 F_0_2 ?_
      have r3b : s 122 (32 + 32 * (s 109 18 - 1)) = s 122 0 := by have := r3; rw [eY, eX, Nat.add_zero] at this; exact this
      obtain ⟨_, K, _, kr, rfl, rfl, hK⟩ := c_revert2_5 (l := l) (D := D) (tw := 5) (I := I) ho ho8 hd hd1 hd8 (k := i) (a := a) r1 r2.2.1 r2.2.2.1 (by have := r2.1; omega)
      have hKo : ∀ x, x ≠ 74 → x ≠ 35 → K x = I x := fun x h1 h2 => by rw [hK]; exact (zu_o _ _ h2).trans (zu_o _ _ h1)
      have hSb : CSg (s 122 (32 + 32 * (s 109 18 - 1))) (sgC s (32 + 32 * (s 109 18 - 1))) (sgT s (32 + 32 * (s 109 18 - 1))) (sgN s (32 + 32 * (s 109 18 - 1))) K 27 := by
        rw [r3b]
        refine CSg.c (hC.sg.eq (hKo _ (by omega) (by omega)) (hKo _ (by omega) (by omega)) (hKo _ (by omega) (by omega)) (hKo _ (by omega) (by omega))) (fun q hq => ?_)
        have hr4 : ∀ j, 1 ≤ j → j < 1 + 3 * s 122 (32 + 32 * (s 109 18 - 1)) → s 122 ((32 + 32 * (s 109 18 - 1)) + j) = s 122 j := fun j h1 h2 => by have := r4 j h1 h2; rw [eY, eX] at this; exact this
        exact ⟨(congrArg (s 122) (by omega)).trans ((hr4 (1 + 3 * q) (by omega) (by omega)).trans (congrArg (s 122) (by omega))), (congrArg (s 122) (by omega)).trans ((hr4 (1 + 3 * q + 1) (by omega) (by omega)).trans (congrArg (s 122) (by omega))), (congrArg (s 122) (by omega)).trans ((hr4 (1 + 3 * q + 2) (by omega) (by omega)).trans (congrArg (s 122) (by omega)))⟩
      have hWb : CWk (s 116 0) (s 117) (s 118) (s 119) (fun i => s 122 ((32 + 32 * (s 109 18 - 1)) + 28 + i)) K 31 := by
        obtain ⟨w1, w2, w3⟩ := hC.wk
        refine ⟨by rw [hKo _ (by omega) (by omega)]; exact w1, w2, fun j hj => ?_⟩
        have ww := w3 j hj
        rw [hKo (31 + 1) (by omega) (by omega), hKo (31 + 2) (by omega) (by omega), hKo (31 + 3) (by omega) (by omega)]
        have h5 := r5 j hj
        rw [eX, eY] at h5
        have e9 : s 122 ((32 + 32 * (s 109 18 - 1)) + 28 + j) = if j = i then a else s 122 (28 + j) := (congrArg (s 122) (by omega)).trans h5
        refine ⟨⟨ww.1.1, ww.1.2.1, ww.1.2.2.1, ?_⟩, ww.2.1, ww.2.2.1, ww.2.2.2.1, ?_⟩
        · show K 35 j = nI (s 122 ((32 + 32 * (s 109 18 - 1)) + 28 + j))
          rw [e9, hK]
          by_cases e : j = i
          · rw [e, if_pos rfl]; exact zu_s _ _ _ _
          · rw [if_neg e, zu_n _ _ e, zu_o _ _ (by decide)]; exact ww.1.2.2.2
        · show s 122 ((32 + 32 * (s 109 18 - 1)) + 28 + j) < 8
          rw [e9]
          by_cases e : j = i
          · rw [if_pos e]; exact r2.2.2.2
          · rw [if_neg e]; exact ww.2.2.2.2
      have h18 : K 74 6 = nI (s 109 18 - 1) := by rw [hK]; rfl
      have h17 : K 74 5 = nI o := by rw [hK]; exact ho
      have hfin := CR.undo (Or.inl rfl) hC hR hd1 ho8 hE h17 h18 (fun a h1 h2 => hKo a h1 (by omega)) hSb hWb
      have hgh : zHg I K := fun a ha => hKo a (by omega) (by omega)
      refine P_callV (pc := 21) (S := []) (As := [_]) kr dX11_undo_21 ok_X0_revertLatest ml_X11_227 iv_X0_revertLatest ⟨by decide, by decide⟩ zret_v rfl ⟨rfl, by decide⟩ sh_74 ⟨by decide, rfl⟩ (Nat.le_of_ble_eq_true rfl) ?_
      refine P_aload_n (pc := 24) dX11_undo_24 rfl ?_
      refine P_getr (pc := 25) 11 6 dX11_undo_25 fl_X11_50 sh_0 fr_11_6 F_0_6 ?_
      refine P_geti (pc := 28) 0 6 (x := nI (s 109 18 - 1)) dX11_undo_28 fl_X11_226 sh_74 fi_0_6 (h18) ?_
      exact P_iret (pc := 31) dX11_undo_31 (⟨by unfold aUndo; rw [if_neg (by omega)], rfl, by unfold nUndo; rw [if_neg (by omega)]; exact hfin, hgh⟩)
  · refine P_bipush (pc := 10) (x := (-2)) dX11_undo_10 (by decide) ?_
    exact P_iret (pc := 12) dX11_undo_12 (⟨by unfold aUndo; rw [if_pos (by omega)], rfl, by unfold nUndo; rw [if_pos (by omega)]; exact hC, zHg.rf⟩)
set_option maxRecDepth 20000 in
theorem c_seen11_5 {l : Launch} {D : va_G} {I : AI} {s : Nat → Nat → Nat} (hC : CR 5 s I) (hR : RInv s) {x y z : Int32} : ZP l D zm_X11_seen 0 (zent 4 [.ref 0, .int x, .int y, .int z]) [] I (zF 5) (fun v J G => v = some (aSeen s x y z) ∧ G = zF 5 ∧ CR 5 (nSeen s x y z) J ∧ zHg I J) := by
  have hB1 := hC.st.2.1
  have hB2 := hC.wk.2.1
  have hB3 := hC.sg.2.1
  have hs8 := hC.se.2.1
  show ZP _ _ _ _ [some _, some _, some _, some _] _ _ _ _
  refine P_aload_n (pc := 0) dX11_seen_0 rfl ?_
  refine P_iload_n (pc := 1) dX11_seen_1 rfl ?_
  obtain ⟨_, _, _, kw1, rfl, rfl, rfl⟩ := c_isWalker11_5 (l := l) (D := D) (I := I) (x := x) (n := s 116 0) hC.wk.1 (by omega)
  refine P_callV (pc := 2) (S := []) (As := [_]) kw1 dX11_seen_2 ok_X11_isWalker ml_X11_167 iv_X11_isWalker ⟨by decide, by decide⟩ (zret_b (zix x (s 116 0))) rfl ⟨rfl, by decide⟩ sh_0 ⟨by decide, rfl⟩ (Nat.le_of_ble_eq_true rfl) ?_
  refine P_if_eqB (pc := 5) (tgt := 25) dX11_seen_5 (by decide) (fun h5 => ?_) (fun h5 => ?_)
  · refine P_iconst (pc := 25) (x := (-1)) dX11_seen_25 (by decide) ?_
    exact P_iret (pc := 26) dX11_seen_26 (⟨by unfold aSeen; rw [if_neg (by intro z; simp_all)], rfl, by unfold nSeen; rw [if_neg (by intro z; simp_all)]; exact hC, zHg.rf⟩)
  · obtain ⟨i, hl_i, rfl⟩ := zix_t h5 (by omega)
    refine P_aload_n (pc := 8) dX11_seen_8 rfl ?_
    refine P_iload_n (pc := 9) dX11_seen_9 rfl ?_
    obtain ⟨_, _, _, kw2, rfl, rfl, rfl⟩ := c_isCorner11_5 (l := l) (D := D) (I := I) (x := y) (n := s 111 0) hC.st.1 (by omega)
    refine P_callV (pc := 10) (S := []) (As := [_]) kw2 dX11_seen_10 ok_X11_isCorner ml_X11_146 iv_X11_isCorner ⟨by decide, by decide⟩ (zret_b (zix y (s 111 0))) rfl ⟨rfl, by decide⟩ sh_0 ⟨by decide, rfl⟩ (Nat.le_of_ble_eq_true rfl) ?_
    refine P_if_eqB (pc := 13) (tgt := 25) dX11_seen_13 (by decide) (fun h13 => ?_) (fun h13 => ?_)
    · refine P_iconst (pc := 25) (x := (-1)) dX11_seen_25 (by decide) ?_
      exact P_iret (pc := 26) dX11_seen_26 (⟨by unfold aSeen; rw [if_neg (by intro z; simp_all)], rfl, by unfold nSeen; rw [if_neg (by intro z; simp_all)]; exact hC, zHg.rf⟩)
    · obtain ⟨j, hl_j, rfl⟩ := zix_t h13 (by omega)
      refine P_iload_n (pc := 16) dX11_seen_16 rfl ?_
      refine P_bipush (pc := 17) (x := nI 31) dX11_seen_17 (by decide) ?_
      obtain ⟨_, _, _, kw3, rfl, rfl, rfl⟩ := c_isWithin (l := l) (D := D) (tw := 5) (I := I) (x := z) (n := 31) (by omega)
      refine P_callS (pc := 19) (S := []) (As := [_, _]) kw3 dX11_seen_19 ok_X11_isWithin ml_X11_180 is_X11_isWithin ⟨by decide, by decide⟩ (zret_b (zix z 31)) rfl ⟨rfl, by decide⟩ (Nat.le_of_ble_eq_true rfl) ?_
      refine P_if_neB (pc := 22) (tgt := 27) dX11_seen_22 (by decide) (fun h22 => ?_) (fun h22 => ?_)
      · obtain ⟨k, hl_k, rfl⟩ := zix_t h22 (by omega)
        refine P_aload_n (pc := 27) dX11_seen_27 rfl ?_
        refine P_getr (pc := 28) 11 8 dX11_seen_28 fl_X11_64 sh_0 fr_11_8 F_0_8 ?_
        refine P_geti (pc := 31) 4 3 (x := nI (s 109 33)) dX11_seen_31 fl_X11_142 sh_93 fi_4_3 (hC.se.1) ?_
        refine P_bipush (pc := 34) (x := nI 8) dX11_seen_34 (by decide) ?_
        refine P_icmp_ltN (pc := 36) (tgt := 42) dX11_seen_36 (by decide) (by omega) (by omega) (fun h36 => ?_) (fun h36 => ?_)
        · refine P_aload_n (pc := 42) dX11_seen_42 rfl ?_
          refine P_getr (pc := 43) 11 8 dX11_seen_43 fl_X11_64 sh_0 fr_11_8 F_0_8 ?_
          refine P_iload_n (pc := 46) dX11_seen_46 rfl ?_
          refine P_iload_n (pc := 47) dX11_seen_47 rfl ?_
          refine P_iload_n (pc := 48) dX11_seen_48 rfl ?_
          obtain ⟨_, Q, _, kq, rfl, rfl, hQ⟩ := c_sadd (l := l) (D := D) (tw := 5) (I := I) (m := s 109 33) (x := i) (y := j) (z := k) hC.se.1 (by omega)
          refine P_callV (pc := 49) (S := []) (As := [_, _, _]) kq dX11_seen_49 ok_X4_add ml_X11_276 iv_X4_add ⟨by decide, by decide⟩ zret_v rfl ⟨rfl, by decide⟩ sh_93 ⟨by decide, rfl⟩ (Nat.le_of_ble_eq_true rfl) ?_
          refine P_aload_n (pc := 52) dX11_seen_52 rfl ?_
          refine P_getr (pc := 53) 11 8 dX11_seen_53 fl_X11_64 sh_0 fr_11_8 F_0_8 ?_
          refine P_geti (pc := 56) 4 3 (x := nI (s 109 33 + 1)) dX11_seen_56 fl_X11_142 sh_93 fi_4_3 (by rw [hQ]; rfl) ?_
          exact P_iret (pc := 59) dX11_seen_59 (⟨by unfold aSeen; rw [if_pos ⟨h5, h13, h22⟩, if_neg (by omega)], rfl, by unfold nSeen; rw [if_pos ⟨⟨h5, h13, h22⟩, by omega⟩, nI_clamp (by omega), nI_clamp (by omega), nI_clamp (by omega), hQ]; exact CR.seen (Or.inl rfl) hC (by omega) (by omega) (by omega) (by omega), fun a ha => by rw [hQ, zu_o _ _ (by omega), zu_o _ _ (by omega), zu_o _ _ (by omega), zu_o _ _ (by omega)]⟩)
        · refine P_bipush (pc := 39) (x := (-3)) dX11_seen_39 (by decide) ?_
          exact P_iret (pc := 41) dX11_seen_41 (⟨by unfold aSeen; rw [if_pos ⟨h5, h13, h22⟩, if_pos (by omega)], rfl, by unfold nSeen; rw [if_neg (by intro z; exact z.2 (by omega))]; exact hC, zHg.rf⟩)
      · refine P_iconst (pc := 25) (x := (-1)) dX11_seen_25 (by decide) ?_
        exact P_iret (pc := 26) dX11_seen_26 (⟨by unfold aSeen; rw [if_neg (by intro z; simp_all)], rfl, by unfold nSeen; rw [if_neg (by intro z; simp_all)]; exact hC, zHg.rf⟩)
set_option maxRecDepth 20000 in
theorem c_forget11_5 {l : Launch} {D : va_G} {I : AI} {s : Nat → Nat → Nat} (hC : CR 5 s I) (hR : RInv s)  : ZP l D zm_X11_forget 0 (zent 2 [.ref 0]) [] I (zF 5) (fun v J G => v = some (nI (s 109 33)) ∧ G = zF 5 ∧ CR 5 (zuN s 109 33 0) J ∧ zHg I J) := by
  show ZP _ _ _ _ [some _, none] _ _ _ _
  refine P_aload_n (pc := 0) dX11_forget_0 rfl ?_
  refine P_getr (pc := 1) 11 8 dX11_forget_1 fl_X11_64 sh_0 fr_11_8 F_0_8 ?_
  refine P_geti (pc := 4) 4 3 (x := nI (s 109 33)) dX11_forget_4 fl_X11_142 sh_93 fi_4_3 (hC.se.1) ?_
  refine P_istore_n (pc := 7) dX11_forget_7 (by decide) rfl ?_
  refine P_aload_n (pc := 8) dX11_forget_8 rfl ?_
  refine P_getr (pc := 9) 11 8 dX11_forget_9 fl_X11_64 sh_0 fr_11_8 F_0_8 ?_
  refine P_iconst (pc := 12) (x := nI 0) dX11_forget_12 (by decide) ?_
  refine P_puti (pc := 13) 4 3 dX11_forget_13 fl_X11_142 sh_93 fp_4_3 rfl rfl ?_
  refine P_iload_n (pc := 16) dX11_forget_16 rfl ?_
  exact P_iret (pc := 17) dX11_forget_17 (⟨rfl, rfl, CR.forget (Or.inl rfl) hC, fun a ha => zu_o _ _ (by omega)⟩)
set_option maxRecDepth 20000 in
theorem c_wipe11_5 {l : Launch} {D : va_G} {I : AI} {s : Nat → Nat → Nat} (hC : CR 5 s I) (hR : RInv s)  : ZP l D zm_X11_wipe 0 (zent 2 [.ref 0]) [] I (zF 5) (fun v J G => v = some (nI (s 109 1)) ∧ G = zF 5 ∧ CR 5 (zuN s 109 1 0) J ∧ zHg I J) := by
  show ZP _ _ _ _ [some _, none] _ _ _ _
  refine P_aload_n (pc := 0) dX11_wipe_0 rfl ?_
  refine P_getr (pc := 1) 11 0 dX11_wipe_1 fl_X11_10 sh_0 fr_11_0 F_0_0 ?_
  refine P_geti (pc := 4) 7 1 (x := nI (s 109 1)) dX11_wipe_4 fl_X11_109 sh_1 fi_7_1 (hC.tx.1) ?_
  refine P_istore_n (pc := 7) dX11_wipe_7 (by decide) rfl ?_
  refine P_aload_n (pc := 8) dX11_wipe_8 rfl ?_
  refine P_getr (pc := 9) 11 0 dX11_wipe_9 fl_X11_10 sh_0 fr_11_0 F_0_0 ?_
  refine P_iconst (pc := 12) (x := nI 0) dX11_wipe_12 (by decide) ?_
  refine P_puti (pc := 13) 7 1 dX11_wipe_13 fl_X11_109 sh_1 fp_7_1 rfl rfl ?_
  refine P_iload_n (pc := 16) dX11_wipe_16 rfl ?_
  exact P_iret (pc := 17) dX11_wipe_17 (⟨rfl, rfl, CR.wipe (Or.inl rfl) hC, fun a ha => zu_o _ _ (by omega)⟩)
set_option maxRecDepth 20000 in
theorem c_write11_5 {l : Launch} {D : va_G} {I : AI} {s : Nat → Nat → Nat} (hC : CR 5 s I) (hR : RInv s) {x : Int32} : ZP l D zm_X11_write 0 (zent 2 [.ref 0, .int x]) [] I (zF 5) (fun v J G => v = some (aWrite s x) ∧ G = zF 5 ∧ CR 5 (nWrite s x) J ∧ zHg I J) := by
  have ht2 := hC.tx.2.1
  show ZP _ _ _ _ [some _, some _] _ _ _ _
  refine P_iload_n (pc := 0) dX11_write_0 rfl ?_
  refine P_bipush (pc := 1) (x := nI 32) dX11_write_1 (by decide) ?_
  refine P_icmp_lt (pc := 3) (tgt := 12) dX11_write_3 (by decide) (fun h3 => ?_) (fun h3 => ?_)
  · refine P_iconst (pc := 12) (x := (-1)) dX11_write_12 (by decide) ?_
    exact P_iret (pc := 13) dX11_write_13 (⟨by unfold aWrite; rw [if_neg (fun z => absurd z.1 (Int32.not_le.mpr h3))], rfl, by unfold nWrite; rw [if_neg (fun z => absurd z.1.1 (Int32.not_le.mpr h3))]; exact hC, zHg.rf⟩)
  · refine P_iload_n (pc := 6) dX11_write_6 rfl ?_
    refine P_bipush (pc := 7) (x := nI 126) dX11_write_7 (by decide) ?_
    refine P_icmp_le (pc := 9) (tgt := 14) dX11_write_9 (by decide) (fun h9 => ?_) (fun h9 => ?_)
    · have hw : (32 : Int32) ≤ x ∧ x ≤ 126 := ⟨Int32.not_lt.mp h3, h9⟩
      obtain ⟨q, hq, rfl⟩ := letter_n hw
      refine P_aload_n (pc := 14) dX11_write_14 rfl ?_
      refine P_getr (pc := 15) 11 0 dX11_write_15 fl_X11_10 sh_0 fr_11_0 F_0_0 ?_
      refine P_geti (pc := 18) 7 1 (x := nI (s 109 1)) dX11_write_18 fl_X11_109 sh_1 fi_7_1 (hC.tx.1) ?_
      refine P_sipush (pc := 21) (x := nI 200) dX11_write_21 (by decide) ?_
      refine P_icmp_ltN (pc := 24) (tgt := 30) dX11_write_24 (by decide) (by omega) (by omega) (fun h24 => ?_) (fun h24 => ?_)
      · refine P_aload_n (pc := 30) dX11_write_30 rfl ?_
        refine P_getr (pc := 31) 11 0 dX11_write_31 fl_X11_10 sh_0 fr_11_0 F_0_0 ?_
        refine P_iload_n (pc := 34) dX11_write_34 rfl ?_
        obtain ⟨_, Q, _, kq, rfl, rfl, hQ⟩ := c_append (l := l) (D := D) (tw := 5) (I := I) hC.tx (q := q) (by omega) (by omega)
        refine P_callV (pc := 35) (S := []) (As := [_]) kq dX11_write_35 ok_X7_append ml_X11_99 iv_X7_append ⟨by decide, by decide⟩ zret_v rfl ⟨rfl, by decide⟩ sh_1 ⟨by decide, rfl⟩ (Nat.le_of_ble_eq_true rfl) ?_
        refine P_aload_n (pc := 38) dX11_write_38 rfl ?_
        refine P_getr (pc := 39) 11 0 dX11_write_39 fl_X11_10 sh_0 fr_11_0 F_0_0 ?_
        refine P_geti (pc := 42) 7 1 (x := nI (s 109 1 + 1)) dX11_write_42 fl_X11_109 sh_1 fi_7_1 (by rw [hQ]; rfl) ?_
        exact P_iret (pc := 45) dX11_write_45 (⟨by unfold aWrite; rw [if_pos hw, if_neg (by omega)], rfl, by unfold nWrite; rw [if_pos ⟨hw, by omega⟩, nI_clamp (by omega), hQ]; exact CR.write (Or.inl rfl) hC (by omega) (by omega), fun a ha => by rw [hQ, zu_o _ _ (by omega), zu_o _ _ (by omega)]⟩)
      · refine P_bipush (pc := 27) (x := (-3)) dX11_write_27 (by decide) ?_
        exact P_iret (pc := 29) dX11_write_29 (⟨by unfold aWrite; rw [if_pos hw, if_pos (by omega)], rfl, by unfold nWrite; rw [if_neg (by intro z; exact z.2 (by omega))]; exact hC, zHg.rf⟩)
    · refine P_iconst (pc := 12) (x := (-1)) dX11_write_12 (by decide) ?_
      exact P_iret (pc := 13) dX11_write_13 (⟨by unfold aWrite; rw [if_neg (fun z => absurd z.2 h9)], rfl, by unfold nWrite; rw [if_neg (fun z => absurd z.1.2 h9)]; exact hC, zHg.rf⟩)
set_option maxRecDepth 20000 in
theorem c_keep11_5 {l : Launch} {D : va_G} {I : AI} {s : Nat → Nat → Nat} (hC : CR 5 s I) (hR : RInv s)  : ZP l D zm_X11_keep 0 (zent 1 [.ref 0]) [] I (zF 5) (fun v J G => v = some (aKeep s) ∧ G = zF 5 ∧ CR 5 (nKeep s) J ∧ zHg I J) := by
  have hk2 := hC.sf.2.1
  show ZP _ _ _ _ [some _] _ _ _ _
  refine P_aload_n (pc := 0) dX11_keep_0 rfl ?_
  refine P_getr (pc := 1) 11 7 dX11_keep_1 fl_X11_57 sh_0 fr_11_7 F_0_7 ?_
  refine P_geti (pc := 4) 3 2 (x := nI (s 109 19)) dX11_keep_4 fl_X11_141 sh_80 fi_3_2 (hC.sf.1) ?_
  refine P_iconst (pc := 7) (x := nI 2) dX11_keep_7 (by decide) ?_
  refine P_icmp_ltN (pc := 8) (tgt := 14) dX11_keep_8 (by decide) (by omega) (by omega) (fun h8 => ?_) (fun h8 => ?_)
  · have hk01 : s 109 19 = 0 ∨ s 109 19 = 1 := by omega
    rcases hk01 with hk | hk
    · refine P_aload_n (pc := 14) dX11_keep_14 rfl ?_
      refine P_getr (pc := 15) 11 7 dX11_keep_15 fl_X11_57 sh_0 fr_11_7 F_0_7 ?_
      refine P_aload_n (pc := 18) dX11_keep_18 rfl ?_
      refine P_getr (pc := 19) 11 2 dX11_keep_19 fl_X11_26 sh_0 fr_11_2 F_0_2 ?_
      have hc80 : I 80 2 = nI 0 := by have := hC.sf.1; rw [hk] at this; exact this
      obtain ⟨_, Q, _, kq, rfl, rfl, hQ1, hQ2, hQ3, hQ4⟩ := c_store_5_0 (l := l) (D := D) (tw := 5) (I := I) hC.sg hc80
      refine P_callV (pc := 22) (S := []) (As := [_]) kq dX11_keep_22 ok_X3_store ml_X11_308 iv_X3_store ⟨by decide, by decide⟩ zret_v rfl ⟨rfl, by decide⟩ sh_80 ⟨by decide, rfl⟩ (Nat.le_of_ble_eq_true rfl) ?_
      refine P_aload_n (pc := 25) dX11_keep_25 rfl ?_
      refine P_getr (pc := 26) 11 7 dX11_keep_26 fl_X11_57 sh_0 fr_11_7 F_0_7 ?_
      refine P_geti (pc := 29) 3 2 (x := nI (1)) dX11_keep_29 fl_X11_141 sh_80 fi_3_2 (hQ2) ?_
      exact P_iret (pc := 32) dX11_keep_32 (⟨by unfold aKeep; rw [if_neg (by omega), hk], rfl, by unfold nKeep; rw [if_neg (by omega)]; exact CR.keep (Or.inl rfl) hC hR hk (by omega) hQ1 hQ2 hQ3 hQ4, fun a ha => hQ1 a (by omega) (by omega) (by omega)⟩)
    · refine P_aload_n (pc := 14) dX11_keep_14 rfl ?_
      refine P_getr (pc := 15) 11 7 dX11_keep_15 fl_X11_57 sh_0 fr_11_7 F_0_7 ?_
      refine P_aload_n (pc := 18) dX11_keep_18 rfl ?_
      refine P_getr (pc := 19) 11 2 dX11_keep_19 fl_X11_26 sh_0 fr_11_2 F_0_2 ?_
      have hc80 : I 80 2 = nI 1 := by have := hC.sf.1; rw [hk] at this; exact this
      obtain ⟨_, Q, _, kq, rfl, rfl, hQ1, hQ2, hQ3, hQ4⟩ := c_store_5_1 (l := l) (D := D) (tw := 5) (I := I) hC.sg hc80
      refine P_callV (pc := 22) (S := []) (As := [_]) kq dX11_keep_22 ok_X3_store ml_X11_308 iv_X3_store ⟨by decide, by decide⟩ zret_v rfl ⟨rfl, by decide⟩ sh_80 ⟨by decide, rfl⟩ (Nat.le_of_ble_eq_true rfl) ?_
      refine P_aload_n (pc := 25) dX11_keep_25 rfl ?_
      refine P_getr (pc := 26) 11 7 dX11_keep_26 fl_X11_57 sh_0 fr_11_7 F_0_7 ?_
      refine P_geti (pc := 29) 3 2 (x := nI (2)) dX11_keep_29 fl_X11_141 sh_80 fi_3_2 (hQ2) ?_
      exact P_iret (pc := 32) dX11_keep_32 (⟨by unfold aKeep; rw [if_neg (by omega), hk], rfl, by unfold nKeep; rw [if_neg (by omega)]; exact CR.keep (Or.inl rfl) hC hR hk (by omega) hQ1 hQ2 hQ3 hQ4, fun a ha => hQ1 a (by omega) (by omega) (by omega)⟩)
  · refine P_bipush (pc := 11) (x := (-3)) dX11_keep_11 (by decide) ?_
    exact P_iret (pc := 13) dX11_keep_13 (⟨by unfold aKeep; rw [if_pos (by omega)], rfl, by unfold nKeep; rw [if_pos (by omega)]; exact hC, zHg.rf⟩)
set_option maxRecDepth 20000 in
theorem c_back11_5 {l : Launch} {D : va_G} {I : AI} {s : Nat → Nat → Nat} (hC : CR 5 s I) (hR : RInv s)  : ZP l D zm_X11_back 0 (zent 1 [.ref 0]) [] I (zF 5) (fun v J G => v = some (aBack s) ∧ G = zF 5 ∧ CR 5 (nBack s) J ∧ zHg I J) := by
  have hk2 := hC.sf.2.1
  show ZP _ _ _ _ [some _] _ _ _ _
  refine P_aload_n (pc := 0) dX11_back_0 rfl ?_
  refine P_getr (pc := 1) 11 7 dX11_back_1 fl_X11_57 sh_0 fr_11_7 F_0_7 ?_
  refine P_geti (pc := 4) 3 2 (x := nI (s 109 19)) dX11_back_4 fl_X11_141 sh_80 fi_3_2 (hC.sf.1) ?_
  refine P_if_neN (pc := 7) (tgt := 13) dX11_back_7 (by decide) (by omega) (fun h7 => ?_) (fun h7 => ?_)
  · have hk01 : s 109 19 = 1 ∨ s 109 19 = 2 := by omega
    rcases hk01 with hk | hk
    · refine P_aload_n (pc := 13) dX11_back_13 rfl ?_
      refine P_getr (pc := 14) 11 7 dX11_back_14 fl_X11_57 sh_0 fr_11_7 F_0_7 ?_
      refine P_aload_n (pc := 17) dX11_back_17 rfl ?_
      refine P_getr (pc := 18) 11 2 dX11_back_18 fl_X11_26 sh_0 fr_11_2 F_0_2 ?_
      have hc80 : I 80 2 = nI 1 := by have := hC.sf.1; rw [hk] at this; exact this
      obtain ⟨_, Q, _, kq, rfl, rfl, hQ1, hQ2, hQ3, hQ4⟩ := c_restore_5_0 (l := l) (D := D) (tw := 5) (I := I) (hC.sf.2.2 0 (by omega)).1 hc80
      refine P_callV (pc := 21) (S := []) (As := [_]) kq dX11_back_21 ok_X3_restoreLast ml_X11_311 iv_X3_restoreLast ⟨by decide, by decide⟩ zret_v rfl ⟨rfl, by decide⟩ sh_80 ⟨by decide, rfl⟩ (Nat.le_of_ble_eq_true rfl) ?_
      refine P_aload_n (pc := 24) dX11_back_24 rfl ?_
      refine P_getr (pc := 25) 11 6 dX11_back_25 fl_X11_50 sh_0 fr_11_6 F_0_6 ?_
      obtain ⟨_, Q2, _, kq2, rfl, rfl, hZ⟩ := c_chclear (l := l) (D := D) (tw := 5) (I := Q)
      have hZo : ∀ a, a ≠ 74 → Q2 a = Q a := fun a ha => by rw [hZ]; exact (zu_o _ _ ha).trans (zu_o _ _ ha)
      refine P_callV (pc := 28) (S := []) (As := []) kq2 dX11_back_28 ok_X0_clear ml_X11_138 iv_X0_clear ⟨by decide, by decide⟩ zret_v rfl ⟨rfl, by decide⟩ sh_74 ⟨by decide, rfl⟩ (Nat.le_of_ble_eq_true rfl) ?_
      refine P_aload_n (pc := 31) dX11_back_31 rfl ?_
      refine P_getr (pc := 32) 11 7 dX11_back_32 fl_X11_57 sh_0 fr_11_7 F_0_7 ?_
      refine P_geti (pc := 35) 3 2 (x := nI (0)) dX11_back_35 fl_X11_141 sh_80 fi_3_2 ((congrFun (hZo 80 (by decide)) 2).trans hQ2) ?_
      exact P_iret (pc := 38) dX11_back_38 (⟨by unfold aBack; rw [if_neg (by omega), hk], rfl, by unfold nBack; rw [if_neg (by omega)]; exact CR.back (k := 0) (Or.inl rfl) hC hR hk (fun a h1 h2 h3 => (hZo a h2).trans (hQ1 a h1 (by omega) (by omega))) (fun a h1 h2 => (hZo a (by omega)).trans (hQ1 a (by omega) (by omega) (by omega))) ((congrFun (hZo 80 (by decide)) 2).trans hQ2) ⟨by rw [hZ]; rfl, by rw [hZ]; rfl⟩ (hQ3.eq (hZo _ (by decide)) (hZo _ (by decide)) (hZo _ (by decide)) (hZo _ (by decide))) (fun i hi => (congrFun (hZo _ (by decide)) i).trans (hQ4 i hi)), fun a ha => (hZo a (by omega)).trans (hQ1 a (by omega) (by omega) (by omega))⟩)
    · refine P_aload_n (pc := 13) dX11_back_13 rfl ?_
      refine P_getr (pc := 14) 11 7 dX11_back_14 fl_X11_57 sh_0 fr_11_7 F_0_7 ?_
      refine P_aload_n (pc := 17) dX11_back_17 rfl ?_
      refine P_getr (pc := 18) 11 2 dX11_back_18 fl_X11_26 sh_0 fr_11_2 F_0_2 ?_
      have hc80 : I 80 2 = nI 2 := by have := hC.sf.1; rw [hk] at this; exact this
      obtain ⟨_, Q, _, kq, rfl, rfl, hQ1, hQ2, hQ3, hQ4⟩ := c_restore_5_1 (l := l) (D := D) (tw := 5) (I := I) (hC.sf.2.2 1 (by omega)).1 hc80
      refine P_callV (pc := 21) (S := []) (As := [_]) kq dX11_back_21 ok_X3_restoreLast ml_X11_311 iv_X3_restoreLast ⟨by decide, by decide⟩ zret_v rfl ⟨rfl, by decide⟩ sh_80 ⟨by decide, rfl⟩ (Nat.le_of_ble_eq_true rfl) ?_
      refine P_aload_n (pc := 24) dX11_back_24 rfl ?_
      refine P_getr (pc := 25) 11 6 dX11_back_25 fl_X11_50 sh_0 fr_11_6 F_0_6 ?_
      obtain ⟨_, Q2, _, kq2, rfl, rfl, hZ⟩ := c_chclear (l := l) (D := D) (tw := 5) (I := Q)
      have hZo : ∀ a, a ≠ 74 → Q2 a = Q a := fun a ha => by rw [hZ]; exact (zu_o _ _ ha).trans (zu_o _ _ ha)
      refine P_callV (pc := 28) (S := []) (As := []) kq2 dX11_back_28 ok_X0_clear ml_X11_138 iv_X0_clear ⟨by decide, by decide⟩ zret_v rfl ⟨rfl, by decide⟩ sh_74 ⟨by decide, rfl⟩ (Nat.le_of_ble_eq_true rfl) ?_
      refine P_aload_n (pc := 31) dX11_back_31 rfl ?_
      refine P_getr (pc := 32) 11 7 dX11_back_32 fl_X11_57 sh_0 fr_11_7 F_0_7 ?_
      refine P_geti (pc := 35) 3 2 (x := nI (1)) dX11_back_35 fl_X11_141 sh_80 fi_3_2 ((congrFun (hZo 80 (by decide)) 2).trans hQ2) ?_
      exact P_iret (pc := 38) dX11_back_38 (⟨by unfold aBack; rw [if_neg (by omega), hk], rfl, by unfold nBack; rw [if_neg (by omega)]; exact CR.back (k := 1) (Or.inl rfl) hC hR hk (fun a h1 h2 h3 => (hZo a h2).trans (hQ1 a h1 (by omega) (by omega))) (fun a h1 h2 => (hZo a (by omega)).trans (hQ1 a (by omega) (by omega) (by omega))) ((congrFun (hZo 80 (by decide)) 2).trans hQ2) ⟨by rw [hZ]; rfl, by rw [hZ]; rfl⟩ (hQ3.eq (hZo _ (by decide)) (hZo _ (by decide)) (hZo _ (by decide)) (hZo _ (by decide))) (fun i hi => (congrFun (hZo _ (by decide)) i).trans (hQ4 i hi)), fun a ha => (hZo a (by omega)).trans (hQ1 a (by omega) (by omega) (by omega))⟩)
  · refine P_bipush (pc := 10) (x := (-2)) dX11_back_10 (by decide) ?_
    exact P_iret (pc := 12) dX11_back_12 (⟨by unfold aBack; rw [if_pos (by omega)], rfl, by unfold nBack; rw [if_pos (by omega)]; exact hC, zHg.rf⟩)
set_option maxRecDepth 20000 in
theorem c_fault11_5 {l : Launch} {D : va_G} {I : AI} {s : Nat → Nat → Nat} (hC : CR 5 s I) (hR : RInv s)  : ZP l D zm_X11_fault 0 (zent 1 [.ref 0]) [] I (zF 5) (fun v J G => v = some (aFault s) ∧ G = zF 5 ∧ zSc 5 I J) := by
  show ZP _ _ _ _ [some _] _ _ _ _
  refine P_aload_n (pc := 0) dX11_fault_0 rfl ?_
  refine P_getr (pc := 1) 11 1 dX11_fault_1 fl_X11_19 sh_0 fr_11_1 F_0_1 ?_
  refine P_aload_n (pc := 4) dX11_fault_4 rfl ?_
  refine P_getr (pc := 5) 11 3 dX11_fault_5 fl_X11_30 sh_0 fr_11_3 F_0_3 ?_
  refine P_aload_n (pc := 8) dX11_fault_8 rfl ?_
  refine P_getr (pc := 9) 11 0 dX11_fault_9 fl_X11_10 sh_0 fr_11_0 F_0_0 ?_
  obtain ⟨_, Q, _, kq, rfl, rfl, hQ1, hQ2⟩ := c_readInto_36 (l := l) (D := D) (tw := 5) (I := I) (s0 := s) hC.tx
  refine P_callV (pc := 12) (S := []) (As := [_, _]) kq dX11_fault_12 ok_X2_readInto ml_X11_112 iv_X2_readInto ⟨by decide, by decide⟩ (zret_i _) rfl ⟨rfl, by decide⟩ sh_3 ⟨by decide, rfl⟩ (Nat.le_of_ble_eq_true rfl) ?_
  exact P_iret (pc := 15) dX11_fault_15 (⟨rfl, rfl, fun a ha => hQ1 a (by omega) (by omega) (by omega)⟩)
set_option maxRecDepth 20000 in
theorem c_put11_36 {l : Launch} {D : va_G} {I : AI} {s : Nat → Nat → Nat} (hC : CR 36 s I) (hR : RInv s) {x y z : Int32} : ZP l D zm_X11_put 0 (zent 4 [.ref 0, .int x, .int y, .int z]) [] I (zF 36) (fun v J G => v = some (aPut s x y z) ∧ G = zF 36 ∧ CR 36 (nPut s x y z) J ∧ zHg I J) := by
  have hB1 := hC.st.2.1
  have hB2 := hC.wk.2.1
  have hB3 := hC.sg.2.1
  obtain ⟨o, ho8, ho, hd, hd8, hE⟩ := hC.lg
  have hm8 := hR.1.2.2.1.1
  show ZP _ _ _ _ [some _, some _, some _, some _] _ _ _ _
  refine P_aload_n (pc := 0) dX11_put_0 rfl ?_
  refine P_iload_n (pc := 1) dX11_put_1 rfl ?_
  obtain ⟨_, _, _, kw1, rfl, rfl, rfl⟩ := c_isCorner11_36 (l := l) (D := D) (I := I) (x := x) (n := s 111 0) hC.st.1 (by omega)
  refine P_callV (pc := 2) (S := []) (As := [_]) kw1 dX11_put_2 ok_X11_isCorner ml_X11_146 iv_X11_isCorner ⟨by decide, by decide⟩ (zret_b (zix x (s 111 0))) rfl ⟨rfl, by decide⟩ sh_0 ⟨by decide, rfl⟩ (Nat.le_of_ble_eq_true rfl) ?_
  refine P_if_eqB (pc := 5) (tgt := 24) dX11_put_5 (by decide) (fun h5 => ?_) (fun h5 => ?_)
  · refine P_iconst (pc := 24) (x := (-1)) dX11_put_24 (by decide) ?_
    exact P_iret (pc := 25) dX11_put_25 (⟨by unfold aPut; rw [if_neg (by intro z; simp_all)], rfl, by unfold nPut; rw [if_neg (by intro z; simp_all)]; exact hC, zHg.rf⟩)
  · obtain ⟨i, hl_i, rfl⟩ := zix_t h5 (by omega)
    refine P_aload_n (pc := 8) dX11_put_8 rfl ?_
    refine P_iload_n (pc := 9) dX11_put_9 rfl ?_
    obtain ⟨_, _, _, kw2, rfl, rfl, rfl⟩ := c_isCorner11_36 (l := l) (D := D) (I := I) (x := y) (n := s 111 0) hC.st.1 (by omega)
    refine P_callV (pc := 10) (S := []) (As := [_]) kw2 dX11_put_10 ok_X11_isCorner ml_X11_146 iv_X11_isCorner ⟨by decide, by decide⟩ (zret_b (zix y (s 111 0))) rfl ⟨rfl, by decide⟩ sh_0 ⟨by decide, rfl⟩ (Nat.le_of_ble_eq_true rfl) ?_
    refine P_if_eqB (pc := 13) (tgt := 24) dX11_put_13 (by decide) (fun h13 => ?_) (fun h13 => ?_)
    · refine P_iconst (pc := 24) (x := (-1)) dX11_put_24 (by decide) ?_
      exact P_iret (pc := 25) dX11_put_25 (⟨by unfold aPut; rw [if_neg (by intro z; simp_all)], rfl, by unfold nPut; rw [if_neg (by intro z; simp_all)]; exact hC, zHg.rf⟩)
    · obtain ⟨j, hl_j, rfl⟩ := zix_t h13 (by omega)
      refine P_aload_n (pc := 16) dX11_put_16 rfl ?_
      refine P_iload_n (pc := 17) dX11_put_17 rfl ?_
      obtain ⟨_, _, _, kw3, rfl, rfl, rfl⟩ := c_isCorner11_36 (l := l) (D := D) (I := I) (x := z) (n := s 111 0) hC.st.1 (by omega)
      refine P_callV (pc := 18) (S := []) (As := [_]) kw3 dX11_put_18 ok_X11_isCorner ml_X11_146 iv_X11_isCorner ⟨by decide, by decide⟩ (zret_b (zix z (s 111 0))) rfl ⟨rfl, by decide⟩ sh_0 ⟨by decide, rfl⟩ (Nat.le_of_ble_eq_true rfl) ?_
      refine P_if_neB (pc := 21) (tgt := 26) dX11_put_21 (by decide) (fun h21 => ?_) (fun h21 => ?_)
      · obtain ⟨k, hl_k, rfl⟩ := zix_t h21 (by omega)
        refine P_aload_n (pc := 26) dX11_put_26 rfl ?_
        refine P_getr (pc := 27) 11 2 dX11_put_27 fl_X11_26 sh_0 fr_11_2 F_0_2 ?_
        refine P_getr (pc := 30) 8 1 dX11_put_30 fl_X11_156 sh_36 fr_8_1 F_36_1 ?_
        refine P_geti (pc := 33) 5 3 (x := nI (s 122 0)) dX11_put_33 fl_X11_214 sh_58 fi_5_3 (hC.sg.1) ?_
        refine P_bipush (pc := 36) (x := nI 8) dX11_put_36 (by decide) ?_
        refine P_icmp_ltN (pc := 38) (tgt := 44) dX11_put_38 (by decide) (by omega) (by omega) (fun h38 => ?_) (fun h38 => ?_)
        · refine P_aload_n (pc := 44) dX11_put_44 rfl ?_
          refine P_getr (pc := 45) 11 6 dX11_put_45 fl_X11_50 sh_0 fr_11_6 F_0_6 ?_
          refine P_iconst (pc := 48) (x := nI 0) dX11_put_48 (by decide) ?_
          refine P_aload_n (pc := 49) dX11_put_49 rfl ?_
          refine P_getr (pc := 50) 11 2 dX11_put_50 fl_X11_26 sh_0 fr_11_2 F_0_2 ?_
          refine P_getr (pc := 53) 8 1 dX11_put_53 fl_X11_156 sh_36 fr_8_1 F_36_1 ?_
          refine P_geti (pc := 56) 5 3 (x := nI (s 122 0)) dX11_put_56 fl_X11_214 sh_58 fi_5_3 (hC.sg.1) ?_
          refine P_iload_n (pc := 59) dX11_put_59 rfl ?_
          refine P_iload_n (pc := 60) dX11_put_60 rfl ?_
          refine P_iload_n (pc := 61) dX11_put_61 rfl ?_
          obtain ⟨_, K, _, kn, rfl, rfl, hN⟩ := c_note (l := l) (D := D) (tw := 36) (I := I) (x1 := nI 0) (x2 := nI (s 122 0)) (x3 := nI i) (x4 := nI j) (x5 := nI k) ho ho8 hd hd8
          have hKt : ∀ a, (a < 74 ∨ 79 < a) → K a = I a := hN.1
          refine P_callV (pc := 62) (S := []) (As := [_, _, _, _, _]) kn dX11_put_62 ok_X0_note ml_X11_215 iv_X0_note ⟨by decide, by decide⟩ zret_v rfl ⟨rfl, by decide⟩ sh_74 ⟨by decide, rfl⟩ (Nat.le_of_ble_eq_true rfl) ?_
          refine P_aload_n (pc := 65) dX11_put_65 rfl ?_
          refine P_getr (pc := 66) 11 2 dX11_put_66 fl_X11_26 sh_0 fr_11_2 F_0_2 ?_
          refine P_getr (pc := 69) 8 1 dX11_put_69 fl_X11_156 sh_36 fr_8_1 F_36_1 ?_
          refine P_aload_n (pc := 72) dX11_put_72 rfl ?_
          refine P_getr (pc := 73) 11 2 dX11_put_73 fl_X11_26 sh_0 fr_11_2 F_0_2 ?_
          refine P_getr (pc := 76) 8 1 dX11_put_76 fl_X11_156 sh_36 fr_8_1 F_36_1 ?_
          refine P_geti (pc := 79) 5 3 (x := nI (s 122 0)) dX11_put_79 fl_X11_214 sh_58 fi_5_3 ((congrFun (hKt 58 (by omega)) 3).trans hC.sg.1) ?_
          refine P_iload_n (pc := 82) dX11_put_82 rfl ?_
          refine P_iload_n (pc := 83) dX11_put_83 rfl ?_
          refine P_iload_n (pc := 84) dX11_put_84 rfl ?_
          obtain ⟨_, Q, _, kq, rfl, rfl, hQ1, hQ2⟩ := c_insert_58 (l := l) (D := D) (tw := 36) (I := K) (hC.sg.eq (hKt _ (by omega)) (hKt _ (by omega)) (hKt _ (by omega)) (hKt _ (by omega))) (k := s 122 0) (c := i) (a := j) (n := k) (Nat.le_refl _) (by omega) (by omega) (by omega) (by omega)
          refine P_callV (pc := 85) (S := []) (As := [_, _, _, _]) kq dX11_put_85 ok_X5_insert ml_X11_219 iv_X5_insert ⟨by decide, by decide⟩ zret_v rfl ⟨rfl, by decide⟩ sh_58 ⟨by decide, rfl⟩ (Nat.le_of_ble_eq_true rfl) ?_
          refine P_aload_n (pc := 88) dX11_put_88 rfl ?_
          refine P_getr (pc := 89) 11 2 dX11_put_89 fl_X11_26 sh_0 fr_11_2 F_0_2 ?_
          refine P_getr (pc := 92) 8 1 dX11_put_92 fl_X11_156 sh_36 fr_8_1 F_36_1 ?_
          refine P_geti (pc := 95) 5 3 (x := nI (s 122 0 + 1)) dX11_put_95 fl_X11_214 sh_58 fi_5_3 (hQ2.1) ?_
          exact P_iret (pc := 98) dX11_put_98 (⟨by unfold aPut; rw [if_pos ⟨h5, h13, h21⟩, if_neg (by omega)], rfl, by unfold nPut; rw [if_pos ⟨⟨h5, h13, h21⟩, by omega⟩, nI_clamp (by omega), nI_clamp (by omega), nI_clamp (by omega)]; exact CR.put (Or.inr rfl) hC hR ho8 hE hN (by omega) hQ1 hQ2, fun a ha => (hQ1 a (by omega) (by omega) (by omega) (by omega)).trans (hKt a (by omega))⟩)
        · refine P_bipush (pc := 41) (x := (-3)) dX11_put_41 (by decide) ?_
          exact P_iret (pc := 43) dX11_put_43 (⟨by unfold aPut; rw [if_pos ⟨h5, h13, h21⟩, if_pos (by omega)], rfl, by unfold nPut; rw [if_neg (by intro z; exact z.2 (by omega))]; exact hC, zHg.rf⟩)
      · refine P_iconst (pc := 24) (x := (-1)) dX11_put_24 (by decide) ?_
        exact P_iret (pc := 25) dX11_put_25 (⟨by unfold aPut; rw [if_neg (by intro z; simp_all)], rfl, by unfold nPut; rw [if_neg (by intro z; simp_all)]; exact hC, zHg.rf⟩)
set_option maxRecDepth 20000 in
theorem c_take11_36 {l : Launch} {D : va_G} {I : AI} {s : Nat → Nat → Nat} (hC : CR 36 s I) (hR : RInv s) {x : Int32} : ZP l D zm_X11_take 0 (zent 3 [.ref 0, .int x]) [] I (zF 36) (fun v J G => v = some (aTake s x) ∧ G = zF 36 ∧ CR 36 (nTake s x) J ∧ zHg I J) := by
  have hB1 := hC.st.2.1
  have hB2 := hC.wk.2.1
  have hB3 := hC.sg.2.1
  obtain ⟨o, ho8, ho, hd, hd8, hE⟩ := hC.lg
  show ZP _ _ _ _ [some _, some _, none] _ _ _ _
  refine P_aload_n (pc := 0) dX11_take_0 rfl ?_
  refine P_iload_n (pc := 1) dX11_take_1 rfl ?_
  obtain ⟨_, _, _, kw1, rfl, rfl, rfl⟩ := c_isSign11_36 (l := l) (D := D) (I := I) (x := x) (n := s 122 0) hC.sg.1 (by omega)
  refine P_callV (pc := 2) (S := []) (As := [_]) kw1 dX11_take_2 ok_X11_isSign ml_X11_153 iv_X11_isSign ⟨by decide, by decide⟩ (zret_b (zix x (s 122 0))) rfl ⟨rfl, by decide⟩ sh_0 ⟨by decide, rfl⟩ (Nat.le_of_ble_eq_true rfl) ?_
  refine P_if_neB (pc := 5) (tgt := 10) dX11_take_5 (by decide) (fun h5 => ?_) (fun h5 => ?_)
  · obtain ⟨i, hl_i, rfl⟩ := zix_t h5 (by omega)
    refine P_aload_n (pc := 10) dX11_take_10 rfl ?_
    refine P_getr (pc := 11) 11 2 dX11_take_11 fl_X11_26 sh_0 fr_11_2 F_0_2 ?_
    refine P_getr (pc := 14) 8 1 dX11_take_14 fl_X11_156 sh_36 fr_8_1 F_36_1 ?_
    refine P_astore_n (pc := 17) dX11_take_17 (by decide) rfl ?_
    refine P_aload_n (pc := 18) dX11_take_18 rfl ?_
    refine P_getr (pc := 19) 11 6 dX11_take_19 fl_X11_50 sh_0 fr_11_6 F_0_6 ?_
    refine P_iconst (pc := 22) (x := nI 1) dX11_take_22 (by decide) ?_
    refine P_iload_n (pc := 23) dX11_take_23 rfl ?_
    refine P_aload_n (pc := 24) dX11_take_24 rfl ?_
    refine P_getr (pc := 25) 5 0 dX11_take_25 fl_X11_159 sh_58 fr_5_0 F_58_0 ?_
    refine P_iload_n (pc := 28) dX11_take_28 rfl ?_
    refine P_iald (pc := 29) (i) (x := nI (sgC s 0 i)) dX11_take_29 sh_59 rfl (by omega) (by decide) ((hC.sg.2.2 _ (by omega)).1.1) ?_
    refine P_aload_n (pc := 30) dX11_take_30 rfl ?_
    refine P_getr (pc := 31) 5 1 dX11_take_31 fl_X11_161 sh_58 fr_5_1 F_58_1 ?_
    refine P_iload_n (pc := 34) dX11_take_34 rfl ?_
    refine P_iald (pc := 35) (i) (x := nI (sgT s 0 i)) dX11_take_35 sh_60 rfl (by omega) (by decide) ((hC.sg.2.2 _ (by omega)).1.2.1) ?_
    refine P_aload_n (pc := 36) dX11_take_36 rfl ?_
    refine P_getr (pc := 37) 5 2 dX11_take_37 fl_X11_164 sh_58 fr_5_2 F_58_2 ?_
    refine P_iload_n (pc := 40) dX11_take_40 rfl ?_
    refine P_iald (pc := 41) (i) (x := nI (sgN s 0 i)) dX11_take_41 sh_61 rfl (by omega) (by decide) ((hC.sg.2.2 _ (by omega)).1.2.2) ?_
    obtain ⟨_, K, _, kn, rfl, rfl, hN⟩ := c_note (l := l) (D := D) (tw := 36) (I := I) (x1 := nI 1) (x2 := nI i) (x3 := nI (sgC s 0 i)) (x4 := nI (sgT s 0 i)) (x5 := nI (sgN s 0 i)) ho ho8 hd hd8
    have hKt : ∀ a, (a < 74 ∨ 79 < a) → K a = I a := hN.1
    refine P_callV (pc := 42) (S := []) (As := [_, _, _, _, _]) kn dX11_take_42 ok_X0_note ml_X11_215 iv_X0_note ⟨by decide, by decide⟩ zret_v rfl ⟨rfl, by decide⟩ sh_74 ⟨by decide, rfl⟩ (Nat.le_of_ble_eq_true rfl) ?_
    refine P_aload_n (pc := 45) dX11_take_45 rfl ?_
    refine P_iload_n (pc := 46) dX11_take_46 rfl ?_
    obtain ⟨_, Q, _, kq, rfl, rfl, hQ1, hQ2⟩ := c_remove_58 (l := l) (D := D) (tw := 36) (I := K) (hC.sg.eq (hKt _ (by omega)) (hKt _ (by omega)) (hKt _ (by omega)) (hKt _ (by omega))) (k := i) (by omega)
    refine P_callV (pc := 47) (S := []) (As := [_]) kq dX11_take_47 ok_X5_remove ml_X11_223 iv_X5_remove ⟨by decide, by decide⟩ zret_v rfl ⟨rfl, by decide⟩ sh_58 ⟨by decide, rfl⟩ (Nat.le_of_ble_eq_true rfl) ?_
    refine P_aload_n (pc := 50) dX11_take_50 rfl ?_
    refine P_geti (pc := 51) 5 3 (x := nI (s 122 0 - 1)) dX11_take_51 fl_X11_214 sh_58 fi_5_3 (hQ2.1) ?_
    exact P_iret (pc := 54) dX11_take_54 (⟨by unfold aTake; rw [if_pos h5], rfl, by unfold nTake; rw [if_pos h5, nI_clamp (by omega)]; exact CR.take (Or.inr rfl) hC hR ho8 hE hN (by omega) hQ1 hQ2, fun a ha => (hQ1 a (by omega) (by omega) (by omega) (by omega)).trans (hKt a (by omega))⟩)
  · refine P_iconst (pc := 8) (x := (-1)) dX11_take_8 (by decide) ?_
    exact P_iret (pc := 9) dX11_take_9 (⟨by unfold aTake; rw [if_neg (by intro z; simp_all)], rfl, by unfold nTake; rw [if_neg (by intro z; simp_all)]; exact hC, zHg.rf⟩)
set_option maxRecDepth 20000 in
theorem c_tell11_36 {l : Launch} {D : va_G} {I : AI} {s : Nat → Nat → Nat} (hC : CR 36 s I) (hR : RInv s) {x y : Int32} : ZP l D zm_X11_tell 0 (zent 4 [.ref 0, .int x, .int y]) [] I (zF 36) (fun v J G => v = some (aTell s x y) ∧ G = zF 36 ∧ CR 36 (nTell s x y) J ∧ zHg I J) := by
  have hB1 := hC.st.2.1
  have hB2 := hC.wk.2.1
  have hB3 := hC.sg.2.1
  obtain ⟨o, ho8, ho, hd, hd8, hE⟩ := hC.lg
  show ZP _ _ _ _ [some _, some _, some _, none] _ _ _ _
  refine P_aload_n (pc := 0) dX11_tell_0 rfl ?_
  refine P_iload_n (pc := 1) dX11_tell_1 rfl ?_
  obtain ⟨_, _, _, kw1, rfl, rfl, rfl⟩ := c_isWalker11_36 (l := l) (D := D) (I := I) (x := x) (n := s 116 0) hC.wk.1 (by omega)
  refine P_callV (pc := 2) (S := []) (As := [_]) kw1 dX11_tell_2 ok_X11_isWalker ml_X11_167 iv_X11_isWalker ⟨by decide, by decide⟩ (zret_b (zix x (s 116 0))) rfl ⟨rfl, by decide⟩ sh_0 ⟨by decide, rfl⟩ (Nat.le_of_ble_eq_true rfl) ?_
  refine P_if_eqB (pc := 5) (tgt := 16) dX11_tell_5 (by decide) (fun h5 => ?_) (fun h5 => ?_)
  · refine P_iconst (pc := 16) (x := (-1)) dX11_tell_16 (by decide) ?_
    exact P_iret (pc := 17) dX11_tell_17 (⟨by unfold aTell; rw [if_neg (by intro z; simp_all)], rfl, by unfold nTell; rw [if_neg (by intro z; simp_all)]; exact hC, zHg.rf⟩)
  · obtain ⟨i, hl_i, rfl⟩ := zix_t h5 (by omega)
    refine P_aload_n (pc := 8) dX11_tell_8 rfl ?_
    refine P_iload_n (pc := 9) dX11_tell_9 rfl ?_
    obtain ⟨_, _, _, kw2, rfl, rfl, rfl⟩ := c_isCorner11_36 (l := l) (D := D) (I := I) (x := y) (n := s 111 0) hC.st.1 (by omega)
    refine P_callV (pc := 10) (S := []) (As := [_]) kw2 dX11_tell_10 ok_X11_isCorner ml_X11_146 iv_X11_isCorner ⟨by decide, by decide⟩ (zret_b (zix y (s 111 0))) rfl ⟨rfl, by decide⟩ sh_0 ⟨by decide, rfl⟩ (Nat.le_of_ble_eq_true rfl) ?_
    refine P_if_neB (pc := 13) (tgt := 18) dX11_tell_13 (by decide) (fun h13 => ?_) (fun h13 => ?_)
    · obtain ⟨j, hl_j, rfl⟩ := zix_t h13 (by omega)
      refine P_aload_n (pc := 18) dX11_tell_18 rfl ?_
      refine P_getr (pc := 19) 11 2 dX11_tell_19 fl_X11_26 sh_0 fr_11_2 F_0_2 ?_
      refine P_getr (pc := 22) 8 2 dX11_tell_22 fl_X11_116 sh_36 fr_8_2 F_36_2 ?_
      refine P_getr (pc := 25) 10 3 dX11_tell_25 fl_X11_177 sh_62 fr_10_3 F_62_3 ?_
      refine P_iload_n (pc := 28) dX11_tell_28 rfl ?_
      refine P_iald (pc := 29) (i) (x := nI (s 122 (28 + i))) dX11_tell_29 sh_66 rfl (by omega) (by decide) ((hC.wk.2.2 _ (by omega)).1.2.2.2) ?_
      refine P_istore_n (pc := 30) dX11_tell_30 (by decide) rfl ?_
      refine P_aload_n (pc := 31) dX11_tell_31 rfl ?_
      refine P_getr (pc := 32) 11 6 dX11_tell_32 fl_X11_50 sh_0 fr_11_6 F_0_6 ?_
      refine P_iconst (pc := 35) (x := nI 2) dX11_tell_35 (by decide) ?_
      refine P_iload_n (pc := 36) dX11_tell_36 rfl ?_
      refine P_iconst (pc := 37) (x := (-1)) dX11_tell_37 (by decide) ?_
      refine P_iload_n (pc := 38) dX11_tell_38 rfl ?_
      refine P_iconst (pc := 39) (x := (-1)) dX11_tell_39 (by decide) ?_
      obtain ⟨_, K, _, kn, rfl, rfl, hN⟩ := c_note (l := l) (D := D) (tw := 36) (I := I) (x1 := nI 2) (x2 := nI i) (x3 := (-1)) (x4 := nI (s 122 (28 + i))) (x5 := (-1)) ho ho8 hd hd8
      have hKt : ∀ a, (a < 74 ∨ 79 < a) → K a = I a := hN.1
      refine P_callV (pc := 40) (S := []) (As := [_, _, _, _, _]) kn dX11_tell_40 ok_X0_note ml_X11_215 iv_X0_note ⟨by decide, by decide⟩ zret_v rfl ⟨rfl, by decide⟩ sh_74 ⟨by decide, rfl⟩ (Nat.le_of_ble_eq_true rfl) ?_
      refine P_aload_n (pc := 43) dX11_tell_43 rfl ?_
      refine P_getr (pc := 44) 11 2 dX11_tell_44 fl_X11_26 sh_0 fr_11_2 F_0_2 ?_
      refine P_getr (pc := 47) 8 2 dX11_tell_47 fl_X11_116 sh_36 fr_8_2 F_36_2 ?_
      refine P_getr (pc := 50) 10 3 dX11_tell_50 fl_X11_177 sh_62 fr_10_3 F_62_3 ?_
      refine P_iload_n (pc := 53) dX11_tell_53 rfl ?_
      refine P_iload_n (pc := 54) dX11_tell_54 rfl ?_
      refine P_iast (pc := 55) (i) dX11_tell_55 sh_66 rfl (by omega) (by decide) ?_
      refine P_iload_n (pc := 56) dX11_tell_56 rfl ?_
      exact P_iret (pc := 57) dX11_tell_57 (⟨by unfold aTell; rw [if_pos ⟨h5, h13⟩, nI_clamp (by omega)], rfl, by unfold nTell; rw [if_pos ⟨h5, h13⟩, nI_clamp (by omega), nI_clamp (by omega)]; exact CR.tell (Or.inr rfl) hC hR ho8 hE hN (by omega) (by omega), fun a ha => (zu_o _ _ (by omega)).trans (hKt a (by omega))⟩)
    · refine P_iconst (pc := 16) (x := (-1)) dX11_tell_16 (by decide) ?_
      exact P_iret (pc := 17) dX11_tell_17 (⟨by unfold aTell; rw [if_neg (by intro z; simp_all)], rfl, by unfold nTell; rw [if_neg (by intro z; simp_all)]; exact hC, zHg.rf⟩)
set_option maxRecDepth 20000 in
theorem c_undo11_36 {l : Launch} {D : va_G} {I : AI} {s : Nat → Nat → Nat} (hC : CR 36 s I) (hR : RInv s)  : ZP l D zm_X11_undo 0 (zent 1 [.ref 0]) [] I (zF 36) (fun v J G => v = some (aUndo s) ∧ G = zF 36 ∧ CR 36 (nUndo s) J ∧ zHg I J) := by
  have hB1 := hC.st.2.1
  have hB2 := hC.wk.2.1
  have hB3 := hC.sg.2.1
  obtain ⟨o, ho8, ho, hd, hd8, hE⟩ := hC.lg
  show ZP _ _ _ _ [some _] _ _ _ _
  refine P_aload_n (pc := 0) dX11_undo_0 rfl ?_
  refine P_getr (pc := 1) 11 6 dX11_undo_1 fl_X11_50 sh_0 fr_11_6 F_0_6 ?_
  refine P_geti (pc := 4) 0 6 (x := nI (s 109 18)) dX11_undo_4 fl_X11_226 sh_74 fi_0_6 (hd) ?_
  refine P_if_neN (pc := 7) (tgt := 13) dX11_undo_7 (by decide) (by omega) (fun h7 => ?_) (fun h7 => ?_)
  · have hd1 : 1 ≤ s 109 18 := by omega
    have hrv := hE (s 109 18 - 1) (by omega)
    have hblk := hR.2.2.2.2.1 (s 109 18 - 1) (by omega)
    have hnb : zNb (s 109 18) (s 109 18 - 1) = 0 := by unfold zNb; rw [if_neg (by omega)]
    rw [hnb] at hrv
    have eX : ∀ x, Bk (s 122) (32 + 32 * (s 109 18 - 1)) x = s 122 (32 + 32 * (s 109 18 - 1) + x) := fun x => rfl
    have eY : ∀ x, Bk (s 122) 0 x = s 122 x := fun x => congrArg (s 122) (Nat.zero_add x)
    have hbk := hblk.1
    rcases hrv with ⟨r1, r2, r3, r4, r5⟩ | ⟨r1, k, c, a, n, r2, r3, r4, r5, r6⟩ | ⟨r1, i, a, r2, r3, r4, r5⟩
    · refine P_aload_n (pc := 13) dX11_undo_13 rfl ?_
      refine P_getr (pc := 14) 11 6 dX11_undo_14 fl_X11_50 sh_0 fr_11_6 F_0_6 ?_
      refine P_aload_n (pc := 17) dX11_undo_17 rfl ?_
      refine P_getr (pc := 18) 11 2 dX11_undo_18 fl_X11_26 sh_0 fr_11_2 F_0_2 ?_
      have r3b : s 122 0 = s 122 (32 + 32 * (s 109 18 - 1)) + 1 := by have := r3; rw [eY, eX, Nat.add_zero] at this; exact this
      obtain ⟨_, K, _, kr, rfl, rfl, hK1, hK2, hK3, hK4⟩ := c_revert0_36 (l := l) (D := D) (tw := 36) (I := I) ho ho8 hd hd1 hd8 hC.sg (k := s 122 (32 + 32 * (s 109 18 - 1))) r1 r2 (by omega)
      have hSb : CSg (s 122 (32 + 32 * (s 109 18 - 1))) (sgC s (32 + 32 * (s 109 18 - 1))) (sgT s (32 + 32 * (s 109 18 - 1))) (sgN s (32 + 32 * (s 109 18 - 1))) K 58 := by
        rw [show s 122 0 - 1 = s 122 (32 + 32 * (s 109 18 - 1)) by omega] at hK4
        refine CSg.c hK4 (fun q hq => ?_)
        have hr4 : ∀ j, 1 ≤ j → j < 1 + 3 * s 122 (32 + 32 * (s 109 18 - 1)) → s 122 ((32 + 32 * (s 109 18 - 1)) + j) = s 122 j := fun j h1 h2 => by have := r4 j h1 h2; rw [eY, eX] at this; exact this
        unfold delN
        rw [if_pos hq, if_pos hq, if_pos hq]
        exact ⟨(congrArg (s 122) (by omega)).trans ((hr4 (1 + 3 * q) (by omega) (by omega)).trans (congrArg (s 122) (by omega))), (congrArg (s 122) (by omega)).trans ((hr4 (1 + 3 * q + 1) (by omega) (by omega)).trans (congrArg (s 122) (by omega))), (congrArg (s 122) (by omega)).trans ((hr4 (1 + 3 * q + 2) (by omega) (by omega)).trans (congrArg (s 122) (by omega)))⟩
      have hWb : CWk (s 116 0) (s 117) (s 118) (s 119) (fun i => s 122 ((32 + 32 * (s 109 18 - 1)) + 28 + i)) K 62 := CWk.c (hC.wk.eq (hK1 _ (by omega) (by omega)) (hK1 _ (by omega) (by omega)) (hK1 _ (by omega) (by omega)) (hK1 _ (by omega) (by omega)) (hK1 _ (by omega) (by omega))) (fun i hi => ⟨rfl, rfl, rfl, by have := r5 i hi; rw [eY, eX] at this; exact (congrArg (s 122) (by omega)).trans this⟩)
      have hfin := CR.undo (Or.inr rfl) hC hR hd1 ho8 hE hK2.1 hK2.2 (fun a h1 h2 => hK1 a h1 (by omega)) hSb hWb
      have h18 : K 74 6 = nI (s 109 18 - 1) := hK2.2
      have hgh : zHg I K := fun a ha => hK1 a (by omega) (by omega)
      refine P_callV (pc := 21) (S := []) (As := [_]) kr dX11_undo_21 ok_X0_revertLatest ml_X11_227 iv_X0_revertLatest ⟨by decide, by decide⟩ zret_v rfl ⟨rfl, by decide⟩ sh_74 ⟨by decide, rfl⟩ (Nat.le_of_ble_eq_true rfl) ?_
      refine P_aload_n (pc := 24) dX11_undo_24 rfl ?_
      refine P_getr (pc := 25) 11 6 dX11_undo_25 fl_X11_50 sh_0 fr_11_6 F_0_6 ?_
      refine P_geti (pc := 28) 0 6 (x := nI (s 109 18 - 1)) dX11_undo_28 fl_X11_226 sh_74 fi_0_6 (h18) ?_
      exact P_iret (pc := 31) dX11_undo_31 (⟨by unfold aUndo; rw [if_neg (by omega)], rfl, by unfold nUndo; rw [if_neg (by omega)]; exact hfin, hgh⟩)
    · refine P_aload_n (pc := 13) dX11_undo_13 rfl ?_
      refine P_getr (pc := 14) 11 6 dX11_undo_14 fl_X11_50 sh_0 fr_11_6 F_0_6 ?_
      refine P_aload_n (pc := 17) dX11_undo_17 rfl ?_
      refine P_getr (pc := 18) 11 2 dX11_undo_18 fl_X11_26 sh_0 fr_11_2 F_0_2 ?_
      have r4b : s 122 (32 + 32 * (s 109 18 - 1)) = s 122 0 + 1 := by have := r4; rw [eY, eX, Nat.add_zero] at this; exact this
      have r2k : k < s 122 (32 + 32 * (s 109 18 - 1)) := r2.1
      obtain ⟨_, K, _, kr, rfl, rfl, hK1, hK2, hK3, hK4⟩ := c_revert1_36 (l := l) (D := D) (tw := 36) (I := I) ho ho8 hd hd1 hd8 hC.sg (k := k) (c := c) (a := a) (n := n) r1 r2.2.1 ⟨r2.2.2.1, r2.2.2.2.1, r2.2.2.2.2⟩ (by omega) (by omega) r3.1 r3.2.1 r3.2.2
      have hSb : CSg (s 122 (32 + 32 * (s 109 18 - 1))) (sgC s (32 + 32 * (s 109 18 - 1))) (sgT s (32 + 32 * (s 109 18 - 1))) (sgN s (32 + 32 * (s 109 18 - 1))) K 58 := by
        rw [← r4b] at hK4
        refine CSg.c hK4 (fun q hq => ?_)
        have h5 := r5 q hq
        simp only [eX, eY] at h5
        have e1 : insN (sgC s 0) k c q = insN (fun x => s 122 (1 + 3 * x)) k c q := by unfold insN; simp only [Nat.zero_add]
        have e2 : insN (sgT s 0) k a q = insN (fun x => s 122 (1 + 3 * x + 1)) k a q := by unfold insN; simp only [Nat.zero_add]
        have e3 : insN (sgN s 0) k n q = insN (fun x => s 122 (1 + 3 * x + 2)) k n q := by unfold insN; simp only [Nat.zero_add]
        rw [e1, e2, e3]
        exact ⟨(congrArg (s 122) (by omega)).trans h5.1, (congrArg (s 122) (by omega)).trans h5.2.1, (congrArg (s 122) (by omega)).trans h5.2.2⟩
      have hWb : CWk (s 116 0) (s 117) (s 118) (s 119) (fun i => s 122 ((32 + 32 * (s 109 18 - 1)) + 28 + i)) K 62 := CWk.c (hC.wk.eq (hK1 _ (by omega) (by omega)) (hK1 _ (by omega) (by omega)) (hK1 _ (by omega) (by omega)) (hK1 _ (by omega) (by omega)) (hK1 _ (by omega) (by omega))) (fun i hi => ⟨rfl, rfl, rfl, by have := r6 i hi; rw [eY, eX] at this; exact (congrArg (s 122) (by omega)).trans this⟩)
      have hfin := CR.undo (Or.inr rfl) hC hR hd1 ho8 hE hK2.1 hK2.2 (fun a h1 h2 => hK1 a h1 (by omega)) hSb hWb
      have h18 : K 74 6 = nI (s 109 18 - 1) := hK2.2
      have hgh : zHg I K := fun a ha => hK1 a (by omega) (by omega)
      refine P_callV (pc := 21) (S := []) (As := [_]) kr dX11_undo_21 ok_X0_revertLatest ml_X11_227 iv_X0_revertLatest ⟨by decide, by decide⟩ zret_v rfl ⟨rfl, by decide⟩ sh_74 ⟨by decide, rfl⟩ (Nat.le_of_ble_eq_true rfl) ?_
      refine P_aload_n (pc := 24) dX11_undo_24 rfl ?_
      refine P_getr (pc := 25) 11 6 dX11_undo_25 fl_X11_50 sh_0 fr_11_6 F_0_6 ?_
      refine P_geti (pc := 28) 0 6 (x := nI (s 109 18 - 1)) dX11_undo_28 fl_X11_226 sh_74 fi_0_6 (h18) ?_
      exact P_iret (pc := 31) dX11_undo_31 (⟨by unfold aUndo; rw [if_neg (by omega)], rfl, by unfold nUndo; rw [if_neg (by omega)]; exact hfin, hgh⟩)
    · refine P_aload_n (pc := 13) dX11_undo_13 rfl ?_
      refine P_getr (pc := 14) 11 6 dX11_undo_14 fl_X11_50 sh_0 fr_11_6 F_0_6 ?_
      refine P_aload_n (pc := 17) dX11_undo_17 rfl ?_
      refine P_getr (pc := 18) 11 2 dX11_undo_18 fl_X11_26 sh_0 fr_11_2 F_0_2 ?_
      have r3b : s 122 (32 + 32 * (s 109 18 - 1)) = s 122 0 := by have := r3; rw [eY, eX, Nat.add_zero] at this; exact this
      obtain ⟨_, K, _, kr, rfl, rfl, hK⟩ := c_revert2_36 (l := l) (D := D) (tw := 36) (I := I) ho ho8 hd hd1 hd8 (k := i) (a := a) r1 r2.2.1 r2.2.2.1 (by have := r2.1; omega)
      have hKo : ∀ x, x ≠ 74 → x ≠ 66 → K x = I x := fun x h1 h2 => by rw [hK]; exact (zu_o _ _ h2).trans (zu_o _ _ h1)
      have hSb : CSg (s 122 (32 + 32 * (s 109 18 - 1))) (sgC s (32 + 32 * (s 109 18 - 1))) (sgT s (32 + 32 * (s 109 18 - 1))) (sgN s (32 + 32 * (s 109 18 - 1))) K 58 := by
        rw [r3b]
        refine CSg.c (hC.sg.eq (hKo _ (by omega) (by omega)) (hKo _ (by omega) (by omega)) (hKo _ (by omega) (by omega)) (hKo _ (by omega) (by omega))) (fun q hq => ?_)
        have hr4 : ∀ j, 1 ≤ j → j < 1 + 3 * s 122 (32 + 32 * (s 109 18 - 1)) → s 122 ((32 + 32 * (s 109 18 - 1)) + j) = s 122 j := fun j h1 h2 => by have := r4 j h1 h2; rw [eY, eX] at this; exact this
        exact ⟨(congrArg (s 122) (by omega)).trans ((hr4 (1 + 3 * q) (by omega) (by omega)).trans (congrArg (s 122) (by omega))), (congrArg (s 122) (by omega)).trans ((hr4 (1 + 3 * q + 1) (by omega) (by omega)).trans (congrArg (s 122) (by omega))), (congrArg (s 122) (by omega)).trans ((hr4 (1 + 3 * q + 2) (by omega) (by omega)).trans (congrArg (s 122) (by omega)))⟩
      have hWb : CWk (s 116 0) (s 117) (s 118) (s 119) (fun i => s 122 ((32 + 32 * (s 109 18 - 1)) + 28 + i)) K 62 := by
        obtain ⟨w1, w2, w3⟩ := hC.wk
        refine ⟨by rw [hKo _ (by omega) (by omega)]; exact w1, w2, fun j hj => ?_⟩
        have ww := w3 j hj
        rw [hKo (62 + 1) (by omega) (by omega), hKo (62 + 2) (by omega) (by omega), hKo (62 + 3) (by omega) (by omega)]
        have h5 := r5 j hj
        rw [eX, eY] at h5
        have e9 : s 122 ((32 + 32 * (s 109 18 - 1)) + 28 + j) = if j = i then a else s 122 (28 + j) := (congrArg (s 122) (by omega)).trans h5
        refine ⟨⟨ww.1.1, ww.1.2.1, ww.1.2.2.1, ?_⟩, ww.2.1, ww.2.2.1, ww.2.2.2.1, ?_⟩
        · show K 66 j = nI (s 122 ((32 + 32 * (s 109 18 - 1)) + 28 + j))
          rw [e9, hK]
          by_cases e : j = i
          · rw [e, if_pos rfl]; exact zu_s _ _ _ _
          · rw [if_neg e, zu_n _ _ e, zu_o _ _ (by decide)]; exact ww.1.2.2.2
        · show s 122 ((32 + 32 * (s 109 18 - 1)) + 28 + j) < 8
          rw [e9]
          by_cases e : j = i
          · rw [if_pos e]; exact r2.2.2.2
          · rw [if_neg e]; exact ww.2.2.2.2
      have h18 : K 74 6 = nI (s 109 18 - 1) := by rw [hK]; rfl
      have h17 : K 74 5 = nI o := by rw [hK]; exact ho
      have hfin := CR.undo (Or.inr rfl) hC hR hd1 ho8 hE h17 h18 (fun a h1 h2 => hKo a h1 (by omega)) hSb hWb
      have hgh : zHg I K := fun a ha => hKo a (by omega) (by omega)
      refine P_callV (pc := 21) (S := []) (As := [_]) kr dX11_undo_21 ok_X0_revertLatest ml_X11_227 iv_X0_revertLatest ⟨by decide, by decide⟩ zret_v rfl ⟨rfl, by decide⟩ sh_74 ⟨by decide, rfl⟩ (Nat.le_of_ble_eq_true rfl) ?_
      refine P_aload_n (pc := 24) dX11_undo_24 rfl ?_
      refine P_getr (pc := 25) 11 6 dX11_undo_25 fl_X11_50 sh_0 fr_11_6 F_0_6 ?_
      refine P_geti (pc := 28) 0 6 (x := nI (s 109 18 - 1)) dX11_undo_28 fl_X11_226 sh_74 fi_0_6 (h18) ?_
      exact P_iret (pc := 31) dX11_undo_31 (⟨by unfold aUndo; rw [if_neg (by omega)], rfl, by unfold nUndo; rw [if_neg (by omega)]; exact hfin, hgh⟩)
  · refine P_bipush (pc := 10) (x := (-2)) dX11_undo_10 (by decide) ?_
    exact P_iret (pc := 12) dX11_undo_12 (⟨by unfold aUndo; rw [if_pos (by omega)], rfl, by unfold nUndo; rw [if_pos (by omega)]; exact hC, zHg.rf⟩)
set_option maxRecDepth 20000 in
theorem c_seen11_36 {l : Launch} {D : va_G} {I : AI} {s : Nat → Nat → Nat} (hC : CR 36 s I) (hR : RInv s) {x y z : Int32} : ZP l D zm_X11_seen 0 (zent 4 [.ref 0, .int x, .int y, .int z]) [] I (zF 36) (fun v J G => v = some (aSeen s x y z) ∧ G = zF 36 ∧ CR 36 (nSeen s x y z) J ∧ zHg I J) := by
  have hB1 := hC.st.2.1
  have hB2 := hC.wk.2.1
  have hB3 := hC.sg.2.1
  have hs8 := hC.se.2.1
  show ZP _ _ _ _ [some _, some _, some _, some _] _ _ _ _
  refine P_aload_n (pc := 0) dX11_seen_0 rfl ?_
  refine P_iload_n (pc := 1) dX11_seen_1 rfl ?_
  obtain ⟨_, _, _, kw1, rfl, rfl, rfl⟩ := c_isWalker11_36 (l := l) (D := D) (I := I) (x := x) (n := s 116 0) hC.wk.1 (by omega)
  refine P_callV (pc := 2) (S := []) (As := [_]) kw1 dX11_seen_2 ok_X11_isWalker ml_X11_167 iv_X11_isWalker ⟨by decide, by decide⟩ (zret_b (zix x (s 116 0))) rfl ⟨rfl, by decide⟩ sh_0 ⟨by decide, rfl⟩ (Nat.le_of_ble_eq_true rfl) ?_
  refine P_if_eqB (pc := 5) (tgt := 25) dX11_seen_5 (by decide) (fun h5 => ?_) (fun h5 => ?_)
  · refine P_iconst (pc := 25) (x := (-1)) dX11_seen_25 (by decide) ?_
    exact P_iret (pc := 26) dX11_seen_26 (⟨by unfold aSeen; rw [if_neg (by intro z; simp_all)], rfl, by unfold nSeen; rw [if_neg (by intro z; simp_all)]; exact hC, zHg.rf⟩)
  · obtain ⟨i, hl_i, rfl⟩ := zix_t h5 (by omega)
    refine P_aload_n (pc := 8) dX11_seen_8 rfl ?_
    refine P_iload_n (pc := 9) dX11_seen_9 rfl ?_
    obtain ⟨_, _, _, kw2, rfl, rfl, rfl⟩ := c_isCorner11_36 (l := l) (D := D) (I := I) (x := y) (n := s 111 0) hC.st.1 (by omega)
    refine P_callV (pc := 10) (S := []) (As := [_]) kw2 dX11_seen_10 ok_X11_isCorner ml_X11_146 iv_X11_isCorner ⟨by decide, by decide⟩ (zret_b (zix y (s 111 0))) rfl ⟨rfl, by decide⟩ sh_0 ⟨by decide, rfl⟩ (Nat.le_of_ble_eq_true rfl) ?_
    refine P_if_eqB (pc := 13) (tgt := 25) dX11_seen_13 (by decide) (fun h13 => ?_) (fun h13 => ?_)
    · refine P_iconst (pc := 25) (x := (-1)) dX11_seen_25 (by decide) ?_
      exact P_iret (pc := 26) dX11_seen_26 (⟨by unfold aSeen; rw [if_neg (by intro z; simp_all)], rfl, by unfold nSeen; rw [if_neg (by intro z; simp_all)]; exact hC, zHg.rf⟩)
    · obtain ⟨j, hl_j, rfl⟩ := zix_t h13 (by omega)
      refine P_iload_n (pc := 16) dX11_seen_16 rfl ?_
      refine P_bipush (pc := 17) (x := nI 31) dX11_seen_17 (by decide) ?_
      obtain ⟨_, _, _, kw3, rfl, rfl, rfl⟩ := c_isWithin (l := l) (D := D) (tw := 36) (I := I) (x := z) (n := 31) (by omega)
      refine P_callS (pc := 19) (S := []) (As := [_, _]) kw3 dX11_seen_19 ok_X11_isWithin ml_X11_180 is_X11_isWithin ⟨by decide, by decide⟩ (zret_b (zix z 31)) rfl ⟨rfl, by decide⟩ (Nat.le_of_ble_eq_true rfl) ?_
      refine P_if_neB (pc := 22) (tgt := 27) dX11_seen_22 (by decide) (fun h22 => ?_) (fun h22 => ?_)
      · obtain ⟨k, hl_k, rfl⟩ := zix_t h22 (by omega)
        refine P_aload_n (pc := 27) dX11_seen_27 rfl ?_
        refine P_getr (pc := 28) 11 8 dX11_seen_28 fl_X11_64 sh_0 fr_11_8 F_0_8 ?_
        refine P_geti (pc := 31) 4 3 (x := nI (s 109 33)) dX11_seen_31 fl_X11_142 sh_93 fi_4_3 (hC.se.1) ?_
        refine P_bipush (pc := 34) (x := nI 8) dX11_seen_34 (by decide) ?_
        refine P_icmp_ltN (pc := 36) (tgt := 42) dX11_seen_36 (by decide) (by omega) (by omega) (fun h36 => ?_) (fun h36 => ?_)
        · refine P_aload_n (pc := 42) dX11_seen_42 rfl ?_
          refine P_getr (pc := 43) 11 8 dX11_seen_43 fl_X11_64 sh_0 fr_11_8 F_0_8 ?_
          refine P_iload_n (pc := 46) dX11_seen_46 rfl ?_
          refine P_iload_n (pc := 47) dX11_seen_47 rfl ?_
          refine P_iload_n (pc := 48) dX11_seen_48 rfl ?_
          obtain ⟨_, Q, _, kq, rfl, rfl, hQ⟩ := c_sadd (l := l) (D := D) (tw := 36) (I := I) (m := s 109 33) (x := i) (y := j) (z := k) hC.se.1 (by omega)
          refine P_callV (pc := 49) (S := []) (As := [_, _, _]) kq dX11_seen_49 ok_X4_add ml_X11_276 iv_X4_add ⟨by decide, by decide⟩ zret_v rfl ⟨rfl, by decide⟩ sh_93 ⟨by decide, rfl⟩ (Nat.le_of_ble_eq_true rfl) ?_
          refine P_aload_n (pc := 52) dX11_seen_52 rfl ?_
          refine P_getr (pc := 53) 11 8 dX11_seen_53 fl_X11_64 sh_0 fr_11_8 F_0_8 ?_
          refine P_geti (pc := 56) 4 3 (x := nI (s 109 33 + 1)) dX11_seen_56 fl_X11_142 sh_93 fi_4_3 (by rw [hQ]; rfl) ?_
          exact P_iret (pc := 59) dX11_seen_59 (⟨by unfold aSeen; rw [if_pos ⟨h5, h13, h22⟩, if_neg (by omega)], rfl, by unfold nSeen; rw [if_pos ⟨⟨h5, h13, h22⟩, by omega⟩, nI_clamp (by omega), nI_clamp (by omega), nI_clamp (by omega), hQ]; exact CR.seen (Or.inr rfl) hC (by omega) (by omega) (by omega) (by omega), fun a ha => by rw [hQ, zu_o _ _ (by omega), zu_o _ _ (by omega), zu_o _ _ (by omega), zu_o _ _ (by omega)]⟩)
        · refine P_bipush (pc := 39) (x := (-3)) dX11_seen_39 (by decide) ?_
          exact P_iret (pc := 41) dX11_seen_41 (⟨by unfold aSeen; rw [if_pos ⟨h5, h13, h22⟩, if_pos (by omega)], rfl, by unfold nSeen; rw [if_neg (by intro z; exact z.2 (by omega))]; exact hC, zHg.rf⟩)
      · refine P_iconst (pc := 25) (x := (-1)) dX11_seen_25 (by decide) ?_
        exact P_iret (pc := 26) dX11_seen_26 (⟨by unfold aSeen; rw [if_neg (by intro z; simp_all)], rfl, by unfold nSeen; rw [if_neg (by intro z; simp_all)]; exact hC, zHg.rf⟩)
set_option maxRecDepth 20000 in
theorem c_forget11_36 {l : Launch} {D : va_G} {I : AI} {s : Nat → Nat → Nat} (hC : CR 36 s I) (hR : RInv s)  : ZP l D zm_X11_forget 0 (zent 2 [.ref 0]) [] I (zF 36) (fun v J G => v = some (nI (s 109 33)) ∧ G = zF 36 ∧ CR 36 (zuN s 109 33 0) J ∧ zHg I J) := by
  show ZP _ _ _ _ [some _, none] _ _ _ _
  refine P_aload_n (pc := 0) dX11_forget_0 rfl ?_
  refine P_getr (pc := 1) 11 8 dX11_forget_1 fl_X11_64 sh_0 fr_11_8 F_0_8 ?_
  refine P_geti (pc := 4) 4 3 (x := nI (s 109 33)) dX11_forget_4 fl_X11_142 sh_93 fi_4_3 (hC.se.1) ?_
  refine P_istore_n (pc := 7) dX11_forget_7 (by decide) rfl ?_
  refine P_aload_n (pc := 8) dX11_forget_8 rfl ?_
  refine P_getr (pc := 9) 11 8 dX11_forget_9 fl_X11_64 sh_0 fr_11_8 F_0_8 ?_
  refine P_iconst (pc := 12) (x := nI 0) dX11_forget_12 (by decide) ?_
  refine P_puti (pc := 13) 4 3 dX11_forget_13 fl_X11_142 sh_93 fp_4_3 rfl rfl ?_
  refine P_iload_n (pc := 16) dX11_forget_16 rfl ?_
  exact P_iret (pc := 17) dX11_forget_17 (⟨rfl, rfl, CR.forget (Or.inr rfl) hC, fun a ha => zu_o _ _ (by omega)⟩)
set_option maxRecDepth 20000 in
theorem c_wipe11_36 {l : Launch} {D : va_G} {I : AI} {s : Nat → Nat → Nat} (hC : CR 36 s I) (hR : RInv s)  : ZP l D zm_X11_wipe 0 (zent 2 [.ref 0]) [] I (zF 36) (fun v J G => v = some (nI (s 109 1)) ∧ G = zF 36 ∧ CR 36 (zuN s 109 1 0) J ∧ zHg I J) := by
  show ZP _ _ _ _ [some _, none] _ _ _ _
  refine P_aload_n (pc := 0) dX11_wipe_0 rfl ?_
  refine P_getr (pc := 1) 11 0 dX11_wipe_1 fl_X11_10 sh_0 fr_11_0 F_0_0 ?_
  refine P_geti (pc := 4) 7 1 (x := nI (s 109 1)) dX11_wipe_4 fl_X11_109 sh_1 fi_7_1 (hC.tx.1) ?_
  refine P_istore_n (pc := 7) dX11_wipe_7 (by decide) rfl ?_
  refine P_aload_n (pc := 8) dX11_wipe_8 rfl ?_
  refine P_getr (pc := 9) 11 0 dX11_wipe_9 fl_X11_10 sh_0 fr_11_0 F_0_0 ?_
  refine P_iconst (pc := 12) (x := nI 0) dX11_wipe_12 (by decide) ?_
  refine P_puti (pc := 13) 7 1 dX11_wipe_13 fl_X11_109 sh_1 fp_7_1 rfl rfl ?_
  refine P_iload_n (pc := 16) dX11_wipe_16 rfl ?_
  exact P_iret (pc := 17) dX11_wipe_17 (⟨rfl, rfl, CR.wipe (Or.inr rfl) hC, fun a ha => zu_o _ _ (by omega)⟩)
set_option maxRecDepth 20000 in
theorem c_write11_36 {l : Launch} {D : va_G} {I : AI} {s : Nat → Nat → Nat} (hC : CR 36 s I) (hR : RInv s) {x : Int32} : ZP l D zm_X11_write 0 (zent 2 [.ref 0, .int x]) [] I (zF 36) (fun v J G => v = some (aWrite s x) ∧ G = zF 36 ∧ CR 36 (nWrite s x) J ∧ zHg I J) := by
  have ht2 := hC.tx.2.1
  show ZP _ _ _ _ [some _, some _] _ _ _ _
  refine P_iload_n (pc := 0) dX11_write_0 rfl ?_
  refine P_bipush (pc := 1) (x := nI 32) dX11_write_1 (by decide) ?_
  refine P_icmp_lt (pc := 3) (tgt := 12) dX11_write_3 (by decide) (fun h3 => ?_) (fun h3 => ?_)
  · refine P_iconst (pc := 12) (x := (-1)) dX11_write_12 (by decide) ?_
    exact P_iret (pc := 13) dX11_write_13 (⟨by unfold aWrite; rw [if_neg (fun z => absurd z.1 (Int32.not_le.mpr h3))], rfl, by unfold nWrite; rw [if_neg (fun z => absurd z.1.1 (Int32.not_le.mpr h3))]; exact hC, zHg.rf⟩)
  · refine P_iload_n (pc := 6) dX11_write_6 rfl ?_
    refine P_bipush (pc := 7) (x := nI 126) dX11_write_7 (by decide) ?_
    refine P_icmp_le (pc := 9) (tgt := 14) dX11_write_9 (by decide) (fun h9 => ?_) (fun h9 => ?_)
    · have hw : (32 : Int32) ≤ x ∧ x ≤ 126 := ⟨Int32.not_lt.mp h3, h9⟩
      obtain ⟨q, hq, rfl⟩ := letter_n hw
      refine P_aload_n (pc := 14) dX11_write_14 rfl ?_
      refine P_getr (pc := 15) 11 0 dX11_write_15 fl_X11_10 sh_0 fr_11_0 F_0_0 ?_
      refine P_geti (pc := 18) 7 1 (x := nI (s 109 1)) dX11_write_18 fl_X11_109 sh_1 fi_7_1 (hC.tx.1) ?_
      refine P_sipush (pc := 21) (x := nI 200) dX11_write_21 (by decide) ?_
      refine P_icmp_ltN (pc := 24) (tgt := 30) dX11_write_24 (by decide) (by omega) (by omega) (fun h24 => ?_) (fun h24 => ?_)
      · refine P_aload_n (pc := 30) dX11_write_30 rfl ?_
        refine P_getr (pc := 31) 11 0 dX11_write_31 fl_X11_10 sh_0 fr_11_0 F_0_0 ?_
        refine P_iload_n (pc := 34) dX11_write_34 rfl ?_
        obtain ⟨_, Q, _, kq, rfl, rfl, hQ⟩ := c_append (l := l) (D := D) (tw := 36) (I := I) hC.tx (q := q) (by omega) (by omega)
        refine P_callV (pc := 35) (S := []) (As := [_]) kq dX11_write_35 ok_X7_append ml_X11_99 iv_X7_append ⟨by decide, by decide⟩ zret_v rfl ⟨rfl, by decide⟩ sh_1 ⟨by decide, rfl⟩ (Nat.le_of_ble_eq_true rfl) ?_
        refine P_aload_n (pc := 38) dX11_write_38 rfl ?_
        refine P_getr (pc := 39) 11 0 dX11_write_39 fl_X11_10 sh_0 fr_11_0 F_0_0 ?_
        refine P_geti (pc := 42) 7 1 (x := nI (s 109 1 + 1)) dX11_write_42 fl_X11_109 sh_1 fi_7_1 (by rw [hQ]; rfl) ?_
        exact P_iret (pc := 45) dX11_write_45 (⟨by unfold aWrite; rw [if_pos hw, if_neg (by omega)], rfl, by unfold nWrite; rw [if_pos ⟨hw, by omega⟩, nI_clamp (by omega), hQ]; exact CR.write (Or.inr rfl) hC (by omega) (by omega), fun a ha => by rw [hQ, zu_o _ _ (by omega), zu_o _ _ (by omega)]⟩)
      · refine P_bipush (pc := 27) (x := (-3)) dX11_write_27 (by decide) ?_
        exact P_iret (pc := 29) dX11_write_29 (⟨by unfold aWrite; rw [if_pos hw, if_pos (by omega)], rfl, by unfold nWrite; rw [if_neg (by intro z; exact z.2 (by omega))]; exact hC, zHg.rf⟩)
    · refine P_iconst (pc := 12) (x := (-1)) dX11_write_12 (by decide) ?_
      exact P_iret (pc := 13) dX11_write_13 (⟨by unfold aWrite; rw [if_neg (fun z => absurd z.2 h9)], rfl, by unfold nWrite; rw [if_neg (fun z => absurd z.1.2 h9)]; exact hC, zHg.rf⟩)
set_option maxRecDepth 20000 in
theorem c_keep11_36 {l : Launch} {D : va_G} {I : AI} {s : Nat → Nat → Nat} (hC : CR 36 s I) (hR : RInv s)  : ZP l D zm_X11_keep 0 (zent 1 [.ref 0]) [] I (zF 36) (fun v J G => v = some (aKeep s) ∧ G = zF 36 ∧ CR 36 (nKeep s) J ∧ zHg I J) := by
  have hk2 := hC.sf.2.1
  show ZP _ _ _ _ [some _] _ _ _ _
  refine P_aload_n (pc := 0) dX11_keep_0 rfl ?_
  refine P_getr (pc := 1) 11 7 dX11_keep_1 fl_X11_57 sh_0 fr_11_7 F_0_7 ?_
  refine P_geti (pc := 4) 3 2 (x := nI (s 109 19)) dX11_keep_4 fl_X11_141 sh_80 fi_3_2 (hC.sf.1) ?_
  refine P_iconst (pc := 7) (x := nI 2) dX11_keep_7 (by decide) ?_
  refine P_icmp_ltN (pc := 8) (tgt := 14) dX11_keep_8 (by decide) (by omega) (by omega) (fun h8 => ?_) (fun h8 => ?_)
  · have hk01 : s 109 19 = 0 ∨ s 109 19 = 1 := by omega
    rcases hk01 with hk | hk
    · refine P_aload_n (pc := 14) dX11_keep_14 rfl ?_
      refine P_getr (pc := 15) 11 7 dX11_keep_15 fl_X11_57 sh_0 fr_11_7 F_0_7 ?_
      refine P_aload_n (pc := 18) dX11_keep_18 rfl ?_
      refine P_getr (pc := 19) 11 2 dX11_keep_19 fl_X11_26 sh_0 fr_11_2 F_0_2 ?_
      have hc80 : I 80 2 = nI 0 := by have := hC.sf.1; rw [hk] at this; exact this
      obtain ⟨_, Q, _, kq, rfl, rfl, hQ1, hQ2, hQ3, hQ4⟩ := c_store_36_0 (l := l) (D := D) (tw := 36) (I := I) hC.sg hc80
      refine P_callV (pc := 22) (S := []) (As := [_]) kq dX11_keep_22 ok_X3_store ml_X11_308 iv_X3_store ⟨by decide, by decide⟩ zret_v rfl ⟨rfl, by decide⟩ sh_80 ⟨by decide, rfl⟩ (Nat.le_of_ble_eq_true rfl) ?_
      refine P_aload_n (pc := 25) dX11_keep_25 rfl ?_
      refine P_getr (pc := 26) 11 7 dX11_keep_26 fl_X11_57 sh_0 fr_11_7 F_0_7 ?_
      refine P_geti (pc := 29) 3 2 (x := nI (1)) dX11_keep_29 fl_X11_141 sh_80 fi_3_2 (hQ2) ?_
      exact P_iret (pc := 32) dX11_keep_32 (⟨by unfold aKeep; rw [if_neg (by omega), hk], rfl, by unfold nKeep; rw [if_neg (by omega)]; exact CR.keep (Or.inr rfl) hC hR hk (by omega) hQ1 hQ2 hQ3 hQ4, fun a ha => hQ1 a (by omega) (by omega) (by omega)⟩)
    · refine P_aload_n (pc := 14) dX11_keep_14 rfl ?_
      refine P_getr (pc := 15) 11 7 dX11_keep_15 fl_X11_57 sh_0 fr_11_7 F_0_7 ?_
      refine P_aload_n (pc := 18) dX11_keep_18 rfl ?_
      refine P_getr (pc := 19) 11 2 dX11_keep_19 fl_X11_26 sh_0 fr_11_2 F_0_2 ?_
      have hc80 : I 80 2 = nI 1 := by have := hC.sf.1; rw [hk] at this; exact this
      obtain ⟨_, Q, _, kq, rfl, rfl, hQ1, hQ2, hQ3, hQ4⟩ := c_store_36_1 (l := l) (D := D) (tw := 36) (I := I) hC.sg hc80
      refine P_callV (pc := 22) (S := []) (As := [_]) kq dX11_keep_22 ok_X3_store ml_X11_308 iv_X3_store ⟨by decide, by decide⟩ zret_v rfl ⟨rfl, by decide⟩ sh_80 ⟨by decide, rfl⟩ (Nat.le_of_ble_eq_true rfl) ?_
      refine P_aload_n (pc := 25) dX11_keep_25 rfl ?_
      refine P_getr (pc := 26) 11 7 dX11_keep_26 fl_X11_57 sh_0 fr_11_7 F_0_7 ?_
      refine P_geti (pc := 29) 3 2 (x := nI (2)) dX11_keep_29 fl_X11_141 sh_80 fi_3_2 (hQ2) ?_
      exact P_iret (pc := 32) dX11_keep_32 (⟨by unfold aKeep; rw [if_neg (by omega), hk], rfl, by unfold nKeep; rw [if_neg (by omega)]; exact CR.keep (Or.inr rfl) hC hR hk (by omega) hQ1 hQ2 hQ3 hQ4, fun a ha => hQ1 a (by omega) (by omega) (by omega)⟩)
  · refine P_bipush (pc := 11) (x := (-3)) dX11_keep_11 (by decide) ?_
    exact P_iret (pc := 13) dX11_keep_13 (⟨by unfold aKeep; rw [if_pos (by omega)], rfl, by unfold nKeep; rw [if_pos (by omega)]; exact hC, zHg.rf⟩)
set_option maxRecDepth 20000 in
theorem c_back11_36 {l : Launch} {D : va_G} {I : AI} {s : Nat → Nat → Nat} (hC : CR 36 s I) (hR : RInv s)  : ZP l D zm_X11_back 0 (zent 1 [.ref 0]) [] I (zF 36) (fun v J G => v = some (aBack s) ∧ G = zF 36 ∧ CR 36 (nBack s) J ∧ zHg I J) := by
  have hk2 := hC.sf.2.1
  show ZP _ _ _ _ [some _] _ _ _ _
  refine P_aload_n (pc := 0) dX11_back_0 rfl ?_
  refine P_getr (pc := 1) 11 7 dX11_back_1 fl_X11_57 sh_0 fr_11_7 F_0_7 ?_
  refine P_geti (pc := 4) 3 2 (x := nI (s 109 19)) dX11_back_4 fl_X11_141 sh_80 fi_3_2 (hC.sf.1) ?_
  refine P_if_neN (pc := 7) (tgt := 13) dX11_back_7 (by decide) (by omega) (fun h7 => ?_) (fun h7 => ?_)
  · have hk01 : s 109 19 = 1 ∨ s 109 19 = 2 := by omega
    rcases hk01 with hk | hk
    · refine P_aload_n (pc := 13) dX11_back_13 rfl ?_
      refine P_getr (pc := 14) 11 7 dX11_back_14 fl_X11_57 sh_0 fr_11_7 F_0_7 ?_
      refine P_aload_n (pc := 17) dX11_back_17 rfl ?_
      refine P_getr (pc := 18) 11 2 dX11_back_18 fl_X11_26 sh_0 fr_11_2 F_0_2 ?_
      have hc80 : I 80 2 = nI 1 := by have := hC.sf.1; rw [hk] at this; exact this
      obtain ⟨_, Q, _, kq, rfl, rfl, hQ1, hQ2, hQ3, hQ4⟩ := c_restore_36_0 (l := l) (D := D) (tw := 36) (I := I) (hC.sf.2.2 0 (by omega)).1 hc80
      refine P_callV (pc := 21) (S := []) (As := [_]) kq dX11_back_21 ok_X3_restoreLast ml_X11_311 iv_X3_restoreLast ⟨by decide, by decide⟩ zret_v rfl ⟨rfl, by decide⟩ sh_80 ⟨by decide, rfl⟩ (Nat.le_of_ble_eq_true rfl) ?_
      refine P_aload_n (pc := 24) dX11_back_24 rfl ?_
      refine P_getr (pc := 25) 11 6 dX11_back_25 fl_X11_50 sh_0 fr_11_6 F_0_6 ?_
      obtain ⟨_, Q2, _, kq2, rfl, rfl, hZ⟩ := c_chclear (l := l) (D := D) (tw := 36) (I := Q)
      have hZo : ∀ a, a ≠ 74 → Q2 a = Q a := fun a ha => by rw [hZ]; exact (zu_o _ _ ha).trans (zu_o _ _ ha)
      refine P_callV (pc := 28) (S := []) (As := []) kq2 dX11_back_28 ok_X0_clear ml_X11_138 iv_X0_clear ⟨by decide, by decide⟩ zret_v rfl ⟨rfl, by decide⟩ sh_74 ⟨by decide, rfl⟩ (Nat.le_of_ble_eq_true rfl) ?_
      refine P_aload_n (pc := 31) dX11_back_31 rfl ?_
      refine P_getr (pc := 32) 11 7 dX11_back_32 fl_X11_57 sh_0 fr_11_7 F_0_7 ?_
      refine P_geti (pc := 35) 3 2 (x := nI (0)) dX11_back_35 fl_X11_141 sh_80 fi_3_2 ((congrFun (hZo 80 (by decide)) 2).trans hQ2) ?_
      exact P_iret (pc := 38) dX11_back_38 (⟨by unfold aBack; rw [if_neg (by omega), hk], rfl, by unfold nBack; rw [if_neg (by omega)]; exact CR.back (k := 0) (Or.inr rfl) hC hR hk (fun a h1 h2 h3 => (hZo a h2).trans (hQ1 a h1 (by omega) (by omega))) (fun a h1 h2 => (hZo a (by omega)).trans (hQ1 a (by omega) (by omega) (by omega))) ((congrFun (hZo 80 (by decide)) 2).trans hQ2) ⟨by rw [hZ]; rfl, by rw [hZ]; rfl⟩ (hQ3.eq (hZo _ (by decide)) (hZo _ (by decide)) (hZo _ (by decide)) (hZo _ (by decide))) (fun i hi => (congrFun (hZo _ (by decide)) i).trans (hQ4 i hi)), fun a ha => (hZo a (by omega)).trans (hQ1 a (by omega) (by omega) (by omega))⟩)
    · refine P_aload_n (pc := 13) dX11_back_13 rfl ?_
      refine P_getr (pc := 14) 11 7 dX11_back_14 fl_X11_57 sh_0 fr_11_7 F_0_7 ?_
      refine P_aload_n (pc := 17) dX11_back_17 rfl ?_
      refine P_getr (pc := 18) 11 2 dX11_back_18 fl_X11_26 sh_0 fr_11_2 F_0_2 ?_
      have hc80 : I 80 2 = nI 2 := by have := hC.sf.1; rw [hk] at this; exact this
      obtain ⟨_, Q, _, kq, rfl, rfl, hQ1, hQ2, hQ3, hQ4⟩ := c_restore_36_1 (l := l) (D := D) (tw := 36) (I := I) (hC.sf.2.2 1 (by omega)).1 hc80
      refine P_callV (pc := 21) (S := []) (As := [_]) kq dX11_back_21 ok_X3_restoreLast ml_X11_311 iv_X3_restoreLast ⟨by decide, by decide⟩ zret_v rfl ⟨rfl, by decide⟩ sh_80 ⟨by decide, rfl⟩ (Nat.le_of_ble_eq_true rfl) ?_
      refine P_aload_n (pc := 24) dX11_back_24 rfl ?_
      refine P_getr (pc := 25) 11 6 dX11_back_25 fl_X11_50 sh_0 fr_11_6 F_0_6 ?_
      obtain ⟨_, Q2, _, kq2, rfl, rfl, hZ⟩ := c_chclear (l := l) (D := D) (tw := 36) (I := Q)
      have hZo : ∀ a, a ≠ 74 → Q2 a = Q a := fun a ha => by rw [hZ]; exact (zu_o _ _ ha).trans (zu_o _ _ ha)
      refine P_callV (pc := 28) (S := []) (As := []) kq2 dX11_back_28 ok_X0_clear ml_X11_138 iv_X0_clear ⟨by decide, by decide⟩ zret_v rfl ⟨rfl, by decide⟩ sh_74 ⟨by decide, rfl⟩ (Nat.le_of_ble_eq_true rfl) ?_
      refine P_aload_n (pc := 31) dX11_back_31 rfl ?_
      refine P_getr (pc := 32) 11 7 dX11_back_32 fl_X11_57 sh_0 fr_11_7 F_0_7 ?_
      refine P_geti (pc := 35) 3 2 (x := nI (1)) dX11_back_35 fl_X11_141 sh_80 fi_3_2 ((congrFun (hZo 80 (by decide)) 2).trans hQ2) ?_
      exact P_iret (pc := 38) dX11_back_38 (⟨by unfold aBack; rw [if_neg (by omega), hk], rfl, by unfold nBack; rw [if_neg (by omega)]; exact CR.back (k := 1) (Or.inr rfl) hC hR hk (fun a h1 h2 h3 => (hZo a h2).trans (hQ1 a h1 (by omega) (by omega))) (fun a h1 h2 => (hZo a (by omega)).trans (hQ1 a (by omega) (by omega) (by omega))) ((congrFun (hZo 80 (by decide)) 2).trans hQ2) ⟨by rw [hZ]; rfl, by rw [hZ]; rfl⟩ (hQ3.eq (hZo _ (by decide)) (hZo _ (by decide)) (hZo _ (by decide)) (hZo _ (by decide))) (fun i hi => (congrFun (hZo _ (by decide)) i).trans (hQ4 i hi)), fun a ha => (hZo a (by omega)).trans (hQ1 a (by omega) (by omega) (by omega))⟩)
  · refine P_bipush (pc := 10) (x := (-2)) dX11_back_10 (by decide) ?_
    exact P_iret (pc := 12) dX11_back_12 (⟨by unfold aBack; rw [if_pos (by omega)], rfl, by unfold nBack; rw [if_pos (by omega)]; exact hC, zHg.rf⟩)
set_option maxRecDepth 20000 in
theorem c_fault11_36 {l : Launch} {D : va_G} {I : AI} {s : Nat → Nat → Nat} (hC : CR 36 s I) (hR : RInv s)  : ZP l D zm_X11_fault 0 (zent 1 [.ref 0]) [] I (zF 36) (fun v J G => v = some (aFault s) ∧ G = zF 36 ∧ zSc 36 I J) := by
  show ZP _ _ _ _ [some _] _ _ _ _
  refine P_aload_n (pc := 0) dX11_fault_0 rfl ?_
  refine P_getr (pc := 1) 11 1 dX11_fault_1 fl_X11_19 sh_0 fr_11_1 F_0_1 ?_
  refine P_aload_n (pc := 4) dX11_fault_4 rfl ?_
  refine P_getr (pc := 5) 11 3 dX11_fault_5 fl_X11_30 sh_0 fr_11_3 F_0_3 ?_
  refine P_aload_n (pc := 8) dX11_fault_8 rfl ?_
  refine P_getr (pc := 9) 11 0 dX11_fault_9 fl_X11_10 sh_0 fr_11_0 F_0_0 ?_
  obtain ⟨_, Q, _, kq, rfl, rfl, hQ1, hQ2⟩ := c_readInto_5 (l := l) (D := D) (tw := 36) (I := I) (s0 := s) hC.tx
  refine P_callV (pc := 12) (S := []) (As := [_, _]) kq dX11_fault_12 ok_X2_readInto ml_X11_112 iv_X2_readInto ⟨by decide, by decide⟩ (zret_i _) rfl ⟨rfl, by decide⟩ sh_3 ⟨by decide, rfl⟩ (Nat.le_of_ble_eq_true rfl) ?_
  exact P_iret (pc := 15) dX11_fault_15 (⟨rfl, rfl, fun a ha => hQ1 a (by omega) (by omega) (by omega)⟩)
