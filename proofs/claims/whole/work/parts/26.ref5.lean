set_option maxRecDepth 20000 in
theorem c_goAs {l : Launch} {D : va_G} {tw : Nat} {I : AI} {s : Nat → Nat → Nat} (hR : RefV s I) (hT : RefT s) (hP : RefP s) {b i : Nat} (hb : b ≤ 352) (hK : RefK s b) (hi : i < s 116 0) : ZP l D zm_X12_goAs 0 (zent 3 [.ref 109, .int (nI b), .int (nI i)]) [] I (zF tw) (fun v J G => v = none ∧ G = zF tw ∧ zGoP (zTw s b i) (s 119 i) I J) := by
  have hP0 := hP.1
  show ZP _ _ _ _ [some _, some _, some _] _ _ _ _
  refine P_aload_n (pc := 0) dX12_goAs_0 rfl ?_
  refine P_iload_n (pc := 1) dX12_goAs_1 rfl ?_
  refine P_aload_n (pc := 2) dX12_goAs_2 rfl ?_
  refine P_getr (pc := 3) 12 8 dX12_goAs_3 fl_X12_32 sh_109 fr_12_8 F_109_8 ?_
  refine P_iload_n (pc := 6) dX12_goAs_6 rfl ?_
  refine P_iald (pc := 7) (i) (x := nI (s 117 i)) dX12_goAs_7 sh_117 rfl (by omega) (by decide) (hR 117 _ rfl) ?_
  refine P_aload_n (pc := 8) dX12_goAs_8 rfl ?_
  refine P_getr (pc := 9) 12 9 dX12_goAs_9 fl_X12_35 sh_109 fr_12_9 F_109_9 ?_
  refine P_iload_n (pc := 12) dX12_goAs_12 rfl ?_
  refine P_iald (pc := 13) (i) (x := nI (s 118 i)) dX12_goAs_13 sh_118 rfl (by omega) (by decide) (hR 118 _ rfl) ?_
  refine P_aload_n (pc := 14) dX12_goAs_14 rfl ?_
  refine P_getr (pc := 15) 12 10 dX12_goAs_15 fl_X12_38 sh_109 fr_12_10 F_109_10 ?_
  refine P_iload_n (pc := 18) dX12_goAs_18 rfl ?_
  refine P_iald (pc := 19) (i) (x := nI (s 119 i)) dX12_goAs_19 sh_119 rfl (by omega) (by decide) (hR 119 _ rfl) ?_
  refine P_aload_n (pc := 20) dX12_goAs_20 rfl ?_
  refine P_getr (pc := 21) 12 17 dX12_goAs_21 fl_X12_47 sh_109 fr_12_17 F_109_17 ?_
  refine P_iload_n (pc := 24) dX12_goAs_24 rfl ?_
  refine P_bipush (pc := 25) (x := nI 28) dX12_goAs_25 (by decide) ?_
  refine P_iaddN (pc := 27) dX12_goAs_27 ?_
  refine P_iload_n (pc := 28) dX12_goAs_28 rfl ?_
  refine P_iaddN (pc := 29) dX12_goAs_29 ?_
  refine P_iald (pc := 30) (((b + 28) + i)) (x := nI (s 122 ((b + 28) + i))) dX12_goAs_30 sh_122 rfl (by omega) (by decide) (hR 122 _ rfl) ?_
  have hw := hP.2 i hi
  have hto := hK.2 i hi
  obtain ⟨_, J, _, k9, rfl, rfl, hG⟩ := c_go (l := l) (D := D) (tw := tw) (b := b) (kd := s 117 i) (fm := s 118 i) (a := s 119 i) (to := s 122 (b + 28 + i)) hR hT hw.1 hb hK.1 hw.2.1 hw.2.2 hto
  refine P_callV (pc := 31) (S := []) (As := [_, _, _, _, _]) k9 dX12_goAs_31 ok_X12_go ml_X12_189 iv_X12_go ⟨by decide, by decide⟩ zret_v rfl ⟨rfl, by decide⟩ sh_109 ⟨by decide, rfl⟩ (Nat.le_of_ble_eq_true rfl) ?_
  exact P_ret (pc := 34) dX12_goAs_34 (⟨rfl, rfl, hG⟩)
set_option maxRecDepth 20000 in
theorem c_walk {l : Launch} {D : va_G} {tw : Nat} {I : AI} {s : Nat → Nat → Nat} (hR : RefV s I) (hT : RefT s) (hP : RefP s) (hK : RefK s 0) {x y : Int32} : ZP l D zm_X12_walk 0 (zent 3 [.ref 109, .int x, .int y]) [] I (zF tw) (fun v J G => v = some (aWalk s x y) ∧ G = zF tw ∧ (zFG I J)) := by
  have hP0 := hP.1
  show ZP _ _ _ _ [some _, some _, some _] _ _ _ _
  refine P_aload_n (pc := 0) dX12_walk_0 rfl ?_
  refine P_iload_n (pc := 1) dX12_walk_1 rfl ?_
  obtain ⟨_, _, _, k1, rfl, rfl, rfl⟩ := c_isWalker (l := l) (D := D) (tw := tw) (x := x) hR (by omega)
  refine P_callV (pc := 2) (S := []) (As := [_]) k1 dX12_walk_2 ok_X12_isWalker ml_X12_152 iv_X12_isWalker ⟨by decide, by decide⟩ (zret_b (zix x (s 116 0))) rfl ⟨rfl, by decide⟩ sh_109 ⟨by decide, rfl⟩ (Nat.le_of_ble_eq_true rfl) ?_
  refine P_if_eqB (pc := 5) (tgt := 18) dX12_walk_5 (by decide) (fun h5 => ?_) (fun h5 => ?_)
  · refine P_iconst (pc := 18) (x := (-1)) dX12_walk_18 (by decide) ?_
    exact P_iret (pc := 19) dX12_walk_19 (⟨by unfold aWalk; rw [if_neg (by intro z; simp_all)], rfl, zFG.rf⟩)
  · obtain ⟨i, hl_i, rfl⟩ := zix_t h5 (by omega)
    refine P_iload_n (pc := 8) dX12_walk_8 rfl ?_
    refine P_iconst (pc := 9) (x := nI 0) dX12_walk_9 (by decide) ?_
    refine P_bipush (pc := 10) (x := nI 30) dX12_walk_10 (by decide) ?_
    obtain ⟨_, _, _, k2, rfl, rfl, rfl⟩ := c_inN (l := l) (D := D) (tw := tw) (x := y) (m := 30) (by omega)
    refine P_callS (pc := 12) (S := []) (As := [_, _, _]) k2 dX12_walk_12 ok_X12_in ml_X12_94 is_X12_in ⟨by decide, by decide⟩ (zret_b (zix y (30 + 1))) rfl ⟨rfl, by decide⟩ (Nat.le_of_ble_eq_true rfl) ?_
    refine P_if_neB (pc := 15) (tgt := 20) dX12_walk_15 (by decide) (fun h15 => ?_) (fun h15 => ?_)
    · obtain ⟨j, hl_j, rfl⟩ := zix_t h15 (by omega)
      refine P_aload_n (pc := 20) dX12_walk_20 rfl ?_
      refine P_iconst (pc := 21) (x := nI 0) dX12_walk_21 (by decide) ?_
      refine P_iload_n (pc := 22) dX12_walk_22 rfl ?_
      obtain ⟨_, J, _, kg, rfl, rfl, hG⟩ := c_goAs (l := l) (D := D) (tw := tw) (b := 0) (i := i) hR hT hP (by omega) hK hl_i
      have hinv := zTrS_inv (kd := s 117 i) (aim := s 119 i) (to := s 122 (0 + 28 + i)) hT hK.1 (hP.2 i hl_i).2.1
      refine P_callV (pc := 23) (S := []) (As := [_, _]) kg dX12_walk_23 ok_X12_goAs ml_X12_193 iv_X12_goAs ⟨by decide, by decide⟩ zret_v rfl ⟨rfl, by decide⟩ sh_109 ⟨by decide, rfl⟩ (Nat.le_of_ble_eq_true rfl) ?_
      refine P_aload_n (pc := 26) dX12_walk_26 rfl ?_
      refine P_getr (pc := 27) 12 22 dX12_walk_27 fl_X12_56 sh_109 fr_12_22 F_109_22 ?_
      refine P_iload_n (pc := 30) dX12_walk_30 rfl ?_
      refine P_iald (pc := 31) (j) (x := nI (zAt (zTw s 0 i) j)) dX12_walk_31 sh_125 rfl (by omega) (by decide) (hG.2.2.2.2.2.2.1 _ (by omega)) ?_
      exact P_iret (pc := 32) dX12_walk_32 (⟨by unfold aWalk; rw [if_pos ⟨h5, h15⟩, nI_clamp (by omega), nI_clamp (by omega)], rfl, hG.1⟩)
    · refine P_iconst (pc := 18) (x := (-1)) dX12_walk_18 (by decide) ?_
      exact P_iret (pc := 19) dX12_walk_19 (⟨by unfold aWalk; rw [if_neg (by intro z; simp_all)], rfl, zFG.rf⟩)
set_option maxRecDepth 20000 in
theorem c_way {l : Launch} {D : va_G} {tw : Nat} {I : AI} {s : Nat → Nat → Nat} (hR : RefV s I) (hT : RefT s) (hP : RefP s) (hK : RefK s 0) {x y : Int32} : ZP l D zm_X12_way 0 (zent 3 [.ref 109, .int x, .int y]) [] I (zF tw) (fun v J G => v = some (aWay s x y) ∧ G = zF tw ∧ (zFG I J)) := by
  have hP0 := hP.1
  show ZP _ _ _ _ [some _, some _, some _] _ _ _ _
  refine P_aload_n (pc := 0) dX12_way_0 rfl ?_
  refine P_iload_n (pc := 1) dX12_way_1 rfl ?_
  obtain ⟨_, _, _, k1, rfl, rfl, rfl⟩ := c_isWalker (l := l) (D := D) (tw := tw) (x := x) hR (by omega)
  refine P_callV (pc := 2) (S := []) (As := [_]) k1 dX12_way_2 ok_X12_isWalker ml_X12_152 iv_X12_isWalker ⟨by decide, by decide⟩ (zret_b (zix x (s 116 0))) rfl ⟨rfl, by decide⟩ sh_109 ⟨by decide, rfl⟩ (Nat.le_of_ble_eq_true rfl) ?_
  refine P_if_eqB (pc := 5) (tgt := 17) dX12_way_5 (by decide) (fun h5 => ?_) (fun h5 => ?_)
  · refine P_iconst (pc := 17) (x := (-1)) dX12_way_17 (by decide) ?_
    exact P_iret (pc := 18) dX12_way_18 (⟨by unfold aWay; rw [if_neg (by intro z; simp_all)], rfl, zFG.rf⟩)
  · obtain ⟨i, hl_i, rfl⟩ := zix_t h5 (by omega)
    refine P_iload_n (pc := 8) dX12_way_8 rfl ?_
    refine P_iconst (pc := 9) (x := nI 0) dX12_way_9 (by decide) ?_
    refine P_iconst (pc := 10) (x := nI 4) dX12_way_10 (by decide) ?_
    obtain ⟨_, _, _, k2, rfl, rfl, rfl⟩ := c_inN (l := l) (D := D) (tw := tw) (x := y) (m := 4) (by omega)
    refine P_callS (pc := 11) (S := []) (As := [_, _, _]) k2 dX12_way_11 ok_X12_in ml_X12_94 is_X12_in ⟨by decide, by decide⟩ (zret_b (zix y (4 + 1))) rfl ⟨rfl, by decide⟩ (Nat.le_of_ble_eq_true rfl) ?_
    refine P_if_neB (pc := 14) (tgt := 19) dX12_way_14 (by decide) (fun h14 => ?_) (fun h14 => ?_)
    · obtain ⟨j, hl_j, rfl⟩ := zix_t h14 (by omega)
      refine P_aload_n (pc := 19) dX12_way_19 rfl ?_
      refine P_iconst (pc := 20) (x := nI 0) dX12_way_20 (by decide) ?_
      refine P_iload_n (pc := 21) dX12_way_21 rfl ?_
      obtain ⟨_, J, _, kg, rfl, rfl, hG⟩ := c_goAs (l := l) (D := D) (tw := tw) (b := 0) (i := i) hR hT hP (by omega) hK hl_i
      have hinv := zTrS_inv (kd := s 117 i) (aim := s 119 i) (to := s 122 (0 + 28 + i)) hT hK.1 (hP.2 i hl_i).2.1
      refine P_callV (pc := 22) (S := []) (As := [_, _]) kg dX12_way_22 ok_X12_goAs ml_X12_193 iv_X12_goAs ⟨by decide, by decide⟩ zret_v rfl ⟨rfl, by decide⟩ sh_109 ⟨by decide, rfl⟩ (Nat.le_of_ble_eq_true rfl) ?_
      refine P_iload_n (pc := 25) dX12_way_25 rfl ?_
      refine P_if_neN (pc := 26) (tgt := 36) dX12_way_26 (by decide) (by omega) (fun h26 => ?_) (fun h26 => ?_)
      · refine P_iload_n (pc := 36) dX12_way_36 rfl ?_
        refine P_iconst (pc := 37) (x := nI 1) dX12_way_37 (by decide) ?_
        refine P_icmp_neN (pc := 38) (tgt := 48) dX12_way_38 (by decide) (by omega) (by omega) (fun h38 => ?_) (fun h38 => ?_)
        · refine P_iload_n (pc := 48) dX12_way_48 rfl ?_
          refine P_iconst (pc := 49) (x := nI 2) dX12_way_49 (by decide) ?_
          refine P_icmp_neN (pc := 50) (tgt := 60) dX12_way_50 (by decide) (by omega) (by omega) (fun h50 => ?_) (fun h50 => ?_)
          · refine P_iload_n (pc := 60) dX12_way_60 rfl ?_
            refine P_iconst (pc := 61) (x := nI 3) dX12_way_61 (by decide) ?_
            refine P_icmp_neN (pc := 62) (tgt := 72) dX12_way_62 (by decide) (by omega) (by omega) (fun h62 => ?_) (fun h62 => ?_)
            · refine P_aload_n (pc := 72) dX12_way_72 rfl ?_
              refine P_geti (pc := 73) 12 27 (x := zb (decide ((zTw s 0 i).2.2.2.2.1 = s 119 i))) dX12_way_73 fl_X12_186 sh_109 fi_12_27 (hG.2.2.2.2.2.1) ?_
              refine P_if_eqB (pc := 76) (tgt := 83) dX12_way_76 (by decide) (fun h76 => ?_) (fun h76 => ?_)
              · refine P_iconst (pc := 83) (x := nI 0) dX12_way_83 (by decide) ?_
                exact P_iret (pc := 84) dX12_way_84 (⟨by unfold aWay; rw [if_pos ⟨h5, h14⟩, nI_clamp (by omega), nI_clamp (by omega)]; show _ = some _; simp only []; first | rw [if_pos (by omega)] | rw [if_neg (by omega), if_pos (by omega)] | rw [if_neg (by omega), if_neg (by omega), if_pos (by omega)] | rw [if_neg (by omega), if_neg (by omega), if_neg (by omega), if_pos (by omega)] | (rw [if_neg (by omega), if_neg (by omega), if_neg (by omega), if_neg (by omega), h76]; rfl), rfl, hG.1⟩)
              · refine P_iconst (pc := 79) (x := nI 1) dX12_way_79 (by decide) ?_
                refine P_goto (pc := 80) (tgt := 84) dX12_way_80 (by decide) ?_
                exact P_iret (pc := 84) dX12_way_84 (⟨by unfold aWay; rw [if_pos ⟨h5, h14⟩, nI_clamp (by omega), nI_clamp (by omega)]; show _ = some _; simp only []; first | rw [if_pos (by omega)] | rw [if_neg (by omega), if_pos (by omega)] | rw [if_neg (by omega), if_neg (by omega), if_pos (by omega)] | rw [if_neg (by omega), if_neg (by omega), if_neg (by omega), if_pos (by omega)] | (rw [if_neg (by omega), if_neg (by omega), if_neg (by omega), if_neg (by omega), h76]; rfl), rfl, hG.1⟩)
            · refine P_aload_n (pc := 65) dX12_way_65 rfl ?_
              refine P_geti (pc := 66) 12 26 (x := nI ((zTw s 0 i).2.2.2.1)) dX12_way_66 fl_X12_179 sh_109 fi_12_26 (hG.2.2.2.2.1) ?_
              refine P_goto (pc := 69) (tgt := 84) dX12_way_69 (by decide) ?_
              exact P_iret (pc := 84) dX12_way_84 (⟨by unfold aWay; rw [if_pos ⟨h5, h14⟩, nI_clamp (by omega), nI_clamp (by omega)]; show _ = some _; simp only []; first | rw [if_pos (by omega)] | rw [if_neg (by omega), if_pos (by omega)] | rw [if_neg (by omega), if_neg (by omega), if_pos (by omega)] | rw [if_neg (by omega), if_neg (by omega), if_neg (by omega), if_pos (by omega)] | (rw [if_neg (by omega), if_neg (by omega), if_neg (by omega), if_neg (by omega), h76]; rfl), rfl, hG.1⟩)
          · refine P_aload_n (pc := 53) dX12_way_53 rfl ?_
            refine P_geti (pc := 54) 12 25 (x := nI ((zTw s 0 i).2.2.1)) dX12_way_54 fl_X12_176 sh_109 fi_12_25 (hG.2.2.2.1) ?_
            refine P_goto (pc := 57) (tgt := 84) dX12_way_57 (by decide) ?_
            exact P_iret (pc := 84) dX12_way_84 (⟨by unfold aWay; rw [if_pos ⟨h5, h14⟩, nI_clamp (by omega), nI_clamp (by omega)]; show _ = some _; simp only []; first | rw [if_pos (by omega)] | rw [if_neg (by omega), if_pos (by omega)] | rw [if_neg (by omega), if_neg (by omega), if_pos (by omega)] | rw [if_neg (by omega), if_neg (by omega), if_neg (by omega), if_pos (by omega)] | (rw [if_neg (by omega), if_neg (by omega), if_neg (by omega), if_neg (by omega), h76]; rfl), rfl, hG.1⟩)
        · refine P_aload_n (pc := 41) dX12_way_41 rfl ?_
          refine P_geti (pc := 42) 12 24 (x := nI ((zTw s 0 i).2.1)) dX12_way_42 fl_X12_173 sh_109 fi_12_24 (hG.2.2.1) ?_
          refine P_goto (pc := 45) (tgt := 84) dX12_way_45 (by decide) ?_
          exact P_iret (pc := 84) dX12_way_84 (⟨by unfold aWay; rw [if_pos ⟨h5, h14⟩, nI_clamp (by omega), nI_clamp (by omega)]; show _ = some _; simp only []; first | rw [if_pos (by omega)] | rw [if_neg (by omega), if_pos (by omega)] | rw [if_neg (by omega), if_neg (by omega), if_pos (by omega)] | rw [if_neg (by omega), if_neg (by omega), if_neg (by omega), if_pos (by omega)] | (rw [if_neg (by omega), if_neg (by omega), if_neg (by omega), if_neg (by omega), h76]; rfl), rfl, hG.1⟩)
      · refine P_aload_n (pc := 29) dX12_way_29 rfl ?_
        refine P_geti (pc := 30) 12 23 (x := nI ((zTw s 0 i).1)) dX12_way_30 fl_X12_170 sh_109 fi_12_23 (hG.2.1) ?_
        refine P_goto (pc := 33) (tgt := 84) dX12_way_33 (by decide) ?_
        exact P_iret (pc := 84) dX12_way_84 (⟨by unfold aWay; rw [if_pos ⟨h5, h14⟩, nI_clamp (by omega), nI_clamp (by omega)]; show _ = some _; simp only []; first | rw [if_pos (by omega)] | rw [if_neg (by omega), if_pos (by omega)] | rw [if_neg (by omega), if_neg (by omega), if_pos (by omega)] | rw [if_neg (by omega), if_neg (by omega), if_neg (by omega), if_pos (by omega)] | (rw [if_neg (by omega), if_neg (by omega), if_neg (by omega), if_neg (by omega), h76]; rfl), rfl, hG.1⟩)
    · refine P_iconst (pc := 17) (x := (-1)) dX12_way_17 (by decide) ?_
      exact P_iret (pc := 18) dX12_way_18 (⟨by unfold aWay; rw [if_neg (by intro z; simp_all)], rfl, zFG.rf⟩)
set_option maxRecDepth 20000 in
theorem c_cameTo {l : Launch} {D : va_G} {tw : Nat} {I : AI} {T : ZT} (hbe : ∀ k, k ≤ 30 → I 125 k = nI (zAt T k)) {k : Nat} (hk : k ≤ 30) : ZP l D zm_X12_cameTo 0 (zent 2 [.ref 109, .int (nI k)]) [] I (zF tw) (fun v J G => v = some (zo (-1) (zCm T k)) ∧ I = J ∧ G = zF tw) := by
  show ZP _ _ _ _ [some _, some _] _ _ _ _
  refine P_iload_n (pc := 0) dX12_cameTo_0 rfl ?_
  refine P_if_neN (pc := 1) (tgt := 8) dX12_cameTo_1 (by decide) (by omega) (fun h1 => ?_) (fun h1 => ?_)
  · refine P_aload_n (pc := 8) dX12_cameTo_8 rfl ?_
    refine P_getr (pc := 9) 12 22 dX12_cameTo_9 fl_X12_56 sh_109 fr_12_22 F_109_22 ?_
    refine P_iload_n (pc := 12) dX12_cameTo_12 rfl ?_
    refine P_iconst (pc := 13) (x := nI 1) dX12_cameTo_13 (by decide) ?_
    refine P_isubN (pc := 14) dX12_cameTo_14 (by omega) ?_
    refine P_iald (pc := 15) ((k - 1)) (x := nI (zAt T ((k - 1)))) dX12_cameTo_15 sh_125 rfl (by omega) (by decide) (hbe _ (by omega)) ?_
    exact P_iret (pc := 16) dX12_cameTo_16 (⟨by unfold zCm; rw [if_neg (by omega)]; rfl, rfl, rfl⟩)
  · refine P_iconst (pc := 4) (x := (-1)) dX12_cameTo_4 (by decide) ?_
    refine P_goto (pc := 5) (tgt := 16) dX12_cameTo_5 (by decide) ?_
    exact P_iret (pc := 16) dX12_cameTo_16 (⟨by unfold zCm; rw [if_pos (by omega)]; rfl, rfl, rfl⟩)
theorem zcm_lt {T : ZT} (h : ∀ k, zAt T k < 8) (k m : Nat) (e : zCm T k = some m) : m < 2 ^ 31 := by
  unfold zCm at e
  by_cases hk : k = 0
  · rw [if_pos hk] at e; cases e
  · rw [if_neg hk] at e
    cases e
    have := h (k - 1)
    omega
set_option maxRecDepth 20000 in
theorem c_round {l : Launch} {D : va_G} {tw : Nat} {I : AI} {s : Nat → Nat → Nat} (hR : RefV s I) (hT : RefT s) (hP : RefP s) (hK : RefK s 0) {x : Int32} : ZP l D zm_X12_round 0 (zent 4 [.ref 109, .int x]) [] I (zF tw) (fun v J G => v = some (aRound s x) ∧ G = zF tw ∧ (zFG I J)) := by
  have hP0 := hP.1
  show ZP _ _ _ _ [some _, some _, none, none] _ _ _ _
  refine P_aload_n (pc := 0) dX12_round_0 rfl ?_
  refine P_iload_n (pc := 1) dX12_round_1 rfl ?_
  obtain ⟨_, _, _, k1, rfl, rfl, rfl⟩ := c_isWalker (l := l) (D := D) (tw := tw) (x := x) hR (by omega)
  refine P_callV (pc := 2) (S := []) (As := [_]) k1 dX12_round_2 ok_X12_isWalker ml_X12_152 iv_X12_isWalker ⟨by decide, by decide⟩ (zret_b (zix x (s 116 0))) rfl ⟨rfl, by decide⟩ sh_109 ⟨by decide, rfl⟩ (Nat.le_of_ble_eq_true rfl) ?_
  refine P_if_neB (pc := 5) (tgt := 10) dX12_round_5 (by decide) (fun h5 => ?_) (fun h5 => ?_)
  · obtain ⟨i, hl_i, rfl⟩ := zix_t h5 (by omega)
    refine P_aload_n (pc := 10) dX12_round_10 rfl ?_
    refine P_iconst (pc := 11) (x := nI 0) dX12_round_11 (by decide) ?_
    refine P_iload_n (pc := 12) dX12_round_12 rfl ?_
    obtain ⟨_, J, _, kg, rfl, rfl, hG⟩ := c_goAs (l := l) (D := D) (tw := tw) (b := 0) (i := i) hR hT hP (by omega) hK hl_i
    have hinv := zTrS_inv (kd := s 117 i) (aim := s 119 i) (to := s 122 (0 + 28 + i)) hT hK.1 (hP.2 i hl_i).2.1
    refine P_callV (pc := 13) (S := []) (As := [_, _]) kg dX12_round_13 ok_X12_goAs ml_X12_193 iv_X12_goAs ⟨by decide, by decide⟩ zret_v rfl ⟨rfl, by decide⟩ sh_109 ⟨by decide, rfl⟩ (Nat.le_of_ble_eq_true rfl) ?_
    refine P_iconst (pc := 16) (x := nI 1) dX12_round_16 (by decide) ?_
    refine P_istore_n (pc := 17) dX12_round_17 (by decide) rfl ?_
    have hal : ∀ k, zAt (zTw s 0 i) k < 8 := zAt_lt hinv.2.1 hinv.2.2.1
    have hst : (zTw s 0 i).1 ≤ 30 := hinv.1
    have loop : ∀ (d k : Nat) (v3 : Option Value), (zTw s 0 i).1 + 1 - k < d → k ≤ (zTw s 0 i).1 + 1 → (∀ q, q < k → (zLo (zRj (zTw s 0 i) q) q).isSome = false) → ZP l D zm_X12_round 18 [some (.ref 109), some (.int (nI i)), some (.int (nI k)), v3] [] J (zF tw) (fun v J G => v = some (aRound s (nI i)) ∧ G = zF tw ∧ (zFG I J)) := by
      intro d
      induction d with
      | zero =>
        intro k v3 hd
        exact absurd hd (by omega)
      | succ d ih =>
        intro k v3 hd hk hout
        have inner : 18 ≤ 18 → k ≤ (zTw s 0 i).1 → ∀ (e j : Nat), k - j < e → j ≤ k → (∀ q, q < j → zRj (zTw s 0 i) k q = false) → ZP l D zm_X12_round 28 [some (.ref 109), some (.int (nI i)), some (.int (nI k)), some (.int (nI j))] [] J (zF tw) (fun v J G => v = some (aRound s (nI i)) ∧ G = zF tw ∧ (zFG I J)) := by
          intro _ hks e
          induction e with
          | zero =>
            intro j he
            exact absurd he (by omega)
          | succ e ih2 =>
            intro j he hj hin
            refine P_iload_n (pc := 28) dX12_round_28 rfl ?_
            refine P_iload_n (pc := 29) dX12_round_29 rfl ?_
            refine P_icmp_geN (pc := 30) (tgt := 69) dX12_round_30 (by decide) (by first | omega | (have := hal k; have := hal j; omega)) (by first | omega | (have := hal k; have := hal j; omega)) (fun h30 => ?_) (fun h30 => ?_)
            · refine P_iincN (pc := 69) (c := 1) dX12_round_69 rfl (by decide) (by decide) rfl ?_
              refine P_goto (pc := 72) (tgt := 18) dX12_round_72 (by decide) ?_
              exact ih (k + 1) _ (by omega) (by omega) (fun q hq => by
                by_cases e : q < k
                · exact hout q e
                · rw [show q = k by omega, zLo_none (fun m hm => hin m (by omega))]; rfl)
            · refine P_aload_n (pc := 33) dX12_round_33 rfl ?_
              refine P_getr (pc := 34) 12 22 dX12_round_34 fl_X12_56 sh_109 fr_12_22 F_109_22 ?_
              refine P_iload_n (pc := 37) dX12_round_37 rfl ?_
              refine P_iald (pc := 38) (k) (x := nI (zAt (zTw s 0 i) k)) dX12_round_38 sh_125 rfl (by first | omega | (have := hal k; have := hal j; omega)) (by decide) (hG.2.2.2.2.2.2.1 _ (by omega)) ?_
              refine P_aload_n (pc := 39) dX12_round_39 rfl ?_
              refine P_getr (pc := 40) 12 22 dX12_round_40 fl_X12_56 sh_109 fr_12_22 F_109_22 ?_
              refine P_iload_n (pc := 43) dX12_round_43 rfl ?_
              refine P_iald (pc := 44) (j) (x := nI (zAt (zTw s 0 i) j)) dX12_round_44 sh_125 rfl (by first | omega | (have := hal k; have := hal j; omega)) (by decide) (hG.2.2.2.2.2.2.1 _ (by omega)) ?_
              refine P_icmp_neN (pc := 45) (tgt := 63) dX12_round_45 (by decide) (by first | omega | (have := hal k; have := hal j; omega)) (by first | omega | (have := hal k; have := hal j; omega)) (fun h45 => ?_) (fun h45 => ?_)
              · refine P_iincN (pc := 63) (c := 1) dX12_round_63 rfl (by decide) (by decide) rfl ?_
                refine P_goto (pc := 66) (tgt := 28) dX12_round_66 (by decide) ?_
                exact ih2 (j + 1) (by omega) (by omega) (fun q hq => by
                  by_cases e : q < j
                  · exact hin q e
                  · rw [show q = j by omega]; exact decide_eq_false (by intro z; exact absurd z.1 h45))
              · refine P_aload_n (pc := 48) dX12_round_48 rfl ?_
                refine P_iload_n (pc := 49) dX12_round_49 rfl ?_
                obtain ⟨_, _, _, kck, rfl, rfl, rfl⟩ := c_cameTo (l := l) (D := D) (tw := tw) (T := zTw s 0 i) hG.2.2.2.2.2.2.1 (k := k) (by omega)
                refine P_callV (pc := 50) (S := []) (As := [_]) kck dX12_round_50 ok_X12_cameTo ml_X12_197 iv_X12_cameTo ⟨by decide, by decide⟩ (zret_i _) rfl ⟨rfl, by decide⟩ sh_109 ⟨by decide, rfl⟩ (Nat.le_of_ble_eq_true rfl) ?_
                refine P_aload_n (pc := 53) dX12_round_53 rfl ?_
                refine P_iload_n (pc := 54) dX12_round_54 rfl ?_
                obtain ⟨_, _, _, kcj, rfl, rfl, rfl⟩ := c_cameTo (l := l) (D := D) (tw := tw) (T := zTw s 0 i) hG.2.2.2.2.2.2.1 (k := j) (by omega)
                refine P_callV (pc := 55) (S := [_]) (As := [_]) kcj dX12_round_55 ok_X12_cameTo ml_X12_197 iv_X12_cameTo ⟨by decide, by decide⟩ (zret_i _) rfl ⟨rfl, by decide⟩ sh_109 ⟨by decide, rfl⟩ (Nat.le_of_ble_eq_true rfl) ?_
                refine P_icmp_ne (pc := 58) (tgt := 63) dX12_round_58 (by decide) (fun h58 => ?_) (fun h58 => ?_)
                · refine P_iincN (pc := 63) (c := 1) dX12_round_63 rfl (by decide) (by decide) rfl ?_
                  refine P_goto (pc := 66) (tgt := 28) dX12_round_66 (by decide) ?_
                  exact ih2 (j + 1) (by omega) (by omega) (fun q hq => by
                    by_cases e : q < j
                    · exact hin q e
                    · rw [show q = j by omega]; exact decide_eq_false (by intro z; exact h58 ((zo_inj (k := -1) (by decide) (fun m e => zcm_lt hal k m e) (fun m e => zcm_lt hal j m e)).mpr z.2)))
                · refine P_iload_n (pc := 61) dX12_round_61 rfl ?_
                  refine P_iret (pc := 62) dX12_round_62 ?_
                  refine ⟨?_, rfl, hG.1⟩
                  unfold aRound zRd
                  rw [if_pos h5, nI_clamp (by omega), zLo_some (k := k) (by omega) ?_ hout]
                  · rfl
                  · rw [zLo_some (k := j) (by omega) (decide_eq_true ⟨by first | exact h45 | exact Classical.byContradiction h45, (zo_inj (k := -1) (by decide) (fun m e => zcm_lt hal k m e) (fun m e => zcm_lt hal j m e)).mp (by first | exact h58 | exact Classical.byContradiction h58)⟩) hin]
                    rfl
        refine P_iload_n (pc := 18) dX12_round_18 rfl ?_
        refine P_aload_n (pc := 19) dX12_round_19 rfl ?_
        refine P_geti (pc := 20) 12 23 (x := nI ((zTw s 0 i).1)) dX12_round_20 fl_X12_170 sh_109 fi_12_23 (hG.2.1) ?_
        refine P_icmp_gtN (pc := 23) (tgt := 75) dX12_round_23 (by decide) (by omega) (by omega) (fun h23 => ?_) (fun h23 => ?_)
        · refine P_bipush (pc := 75) (x := (-4)) dX12_round_75 (by decide) ?_
          refine P_iret (pc := 77) dX12_round_77 ?_
          refine ⟨?_, rfl, hG.1⟩
          unfold aRound zRd
          rw [if_pos h5, nI_clamp (by omega), zLo_none (fun q hq => hout q (by omega))]
          rfl
        · refine P_iconst (pc := 26) (x := nI 0) dX12_round_26 (by decide) ?_
          refine P_istore_n (pc := 27) dX12_round_27 (by decide) rfl ?_
          exact inner (by omega) (by omega) (k + 1) 0 (by omega) (by omega) (fun q hq => by omega)
    exact loop ((zTw s 0 i).1 + 1) 1 none (by omega) (by omega) (fun q hq => by rw [show q = 0 by omega]; rfl)
  · refine P_iconst (pc := 8) (x := (-1)) dX12_round_8 (by decide) ?_
    exact P_iret (pc := 9) dX12_round_9 (⟨by unfold aRound; rw [if_neg (by rw [h5]; decide)], rfl, zFG.rf⟩)
set_option maxRecDepth 20000 in
theorem c_taxBy {l : Launch} {D : va_G} {tw : Nat} {I : AI} {s : Nat → Nat → Nat} (hR : RefV s I) (hT : RefT s) (hP : RefP s) {b : Nat} (hb : b ≤ 352) (hK : RefK s b) : ZP l D zm_X12_taxBy 0 (zent 4 [.ref 109, .int (nI b)]) [] I (zF tw) (fun v J G => v = some (nI (zSum (zTxW s b) (s 116 0))) ∧ G = zF tw ∧ zFG I J ∧ ∀ x, J 126 x = I 126 x + nI (zSum (zTlW s b x) (s 116 0))) := by
  have hP0 := hP.1
  have loop : ∀ (d : Nat) (i : Nat) (J : AI), s 116 0 - i < d → i ≤ s 116 0 → zFG I J → (∀ x, J 126 x = I 126 x + nI (zSum (zTlW s b x) i)) → ZP l D zm_X12_taxBy 4 [some (.ref 109), some (.int (nI b)), some (.int (nI (zSum (zTxW s b) i))), some (.int (nI i))] [] J (zF tw) (fun v J G => v = some (nI (zSum (zTxW s b) (s 116 0))) ∧ G = zF tw ∧ zFG I J ∧ ∀ x, J 126 x = I 126 x + nI (zSum (zTlW s b x) (s 116 0))) := by
    intro d
    induction d with
    | zero =>
      intro i J hd
      exact absurd hd (by omega)
    | succ d ih =>
      intro i J hd hi hF htl
      refine P_iload_n (pc := 4) dX12_taxBy_4 rfl ?_
      refine P_aload_n (pc := 5) dX12_taxBy_5 rfl ?_
      refine P_getr (pc := 6) 12 7 dX12_taxBy_6 fl_X12_29 sh_109 fr_12_7 F_109_7 ?_
      refine P_iconst (pc := 9) (x := nI 0) dX12_taxBy_9 (by decide) ?_
      refine P_iald (pc := 10) (0) (x := nI (s 116 0)) dX12_taxBy_10 sh_116 rfl (by omega) (by decide) ((hF.R hR) 116 _ rfl) ?_
      refine P_icmp_geN (pc := 11) (tgt := 33) dX12_taxBy_11 (by decide) (by omega) (by omega) (fun h11 => ?_) (fun h11 => ?_)
      · refine P_iload_n (pc := 33) dX12_taxBy_33 rfl ?_
        refine P_iret (pc := 34) dX12_taxBy_34 ?_
        have hi2 : i = s 116 0 := by omega
        subst hi2
        exact ⟨rfl, rfl, hF, htl⟩
      · refine P_aload_n (pc := 14) dX12_taxBy_14 rfl ?_
        refine P_iload_n (pc := 15) dX12_taxBy_15 rfl ?_
        refine P_iload_n (pc := 16) dX12_taxBy_16 rfl ?_
        obtain ⟨_, K, _, kg, rfl, rfl, hG⟩ := c_goAs (l := l) (D := D) (tw := tw) (b := b) (i := i) (hF.R hR) hT hP hb hK (by omega)
        refine P_callV (pc := 17) (S := []) (As := [_, _]) kg dX12_taxBy_17 ok_X12_goAs ml_X12_193 iv_X12_goAs ⟨by decide, by decide⟩ zret_v rfl ⟨rfl, by decide⟩ sh_109 ⟨by decide, rfl⟩ (Nat.le_of_ble_eq_true rfl) ?_
        refine P_iload_n (pc := 20) dX12_taxBy_20 rfl ?_
        refine P_aload_n (pc := 21) dX12_taxBy_21 rfl ?_
        refine P_geti (pc := 22) 12 26 (x := nI (zTxW s b i)) dX12_taxBy_22 fl_X12_179 sh_109 fi_12_26 (hG.2.2.2.2.1) ?_
        refine P_iaddN (pc := 25) dX12_taxBy_25 ?_
        refine P_istore_n (pc := 26) dX12_taxBy_26 (by decide) rfl ?_
        refine P_iincN (pc := 27) (c := 1) dX12_taxBy_27 rfl (by decide) (by decide) rfl ?_
        refine P_goto (pc := 30) (tgt := 4) dX12_taxBy_30 (by decide) ?_
        refine ih (i + 1) K (by omega) (by omega) (hF.trans hG.1) (fun x => ?_)
        rw [hG.2.2.2.2.2.2.2 x, htl x, Int32.add_assoc, nI_add]
        rfl
  show ZP _ _ _ _ [some _, some _, none, none] _ _ _ _
  refine P_iconst (pc := 0) (x := nI 0) dX12_taxBy_0 (by decide) ?_
  refine P_istore_n (pc := 1) dX12_taxBy_1 (by decide) rfl ?_
  refine P_iconst (pc := 2) (x := nI 0) dX12_taxBy_2 (by decide) ?_
  refine P_istore_n (pc := 3) dX12_taxBy_3 (by decide) rfl ?_
  exact loop (s 116 0 + 1) 0 I (by omega) (by omega) zFG.rf (fun x => by show I 126 x = I 126 x + nI 0; rw [nI_0, Int32.add_zero])
set_option maxRecDepth 20000 in
theorem c_tax {l : Launch} {D : va_G} {tw : Nat} {I : AI} {s : Nat → Nat → Nat} (hR : RefV s I) (hT : RefT s) (hP : RefP s) (hK : RefK s 0) : ZP l D zm_X12_tax 0 (zent 1 [.ref 109]) [] I (zF tw) (fun v J G => v = some (nI (zSum (zTxW s 0) (s 116 0))) ∧ G = zF tw ∧ zFG I J) := by
  show ZP _ _ _ _ [some _] _ _ _ _
  refine P_aload_n (pc := 0) dX12_tax_0 rfl ?_
  refine P_iconst (pc := 1) (x := nI 0) dX12_tax_1 (by decide) ?_
  obtain ⟨_, J, _, kg, rfl, rfl, hF, htl⟩ := c_taxBy (l := l) (D := D) (tw := tw) (b := 0) hR hT hP (by omega) hK
  refine P_callV (pc := 2) (S := []) (As := [_]) kg dX12_tax_2 ok_X12_taxBy ml_X12_200 iv_X12_taxBy ⟨by decide, by decide⟩ (zret_i _) rfl ⟨rfl, by decide⟩ sh_109 ⟨by decide, rfl⟩ (Nat.le_of_ble_eq_true rfl) ?_
  exact P_iret (pc := 5) dX12_tax_5 (⟨rfl, rfl, hF⟩)
