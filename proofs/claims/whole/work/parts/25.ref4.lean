theorem c_inN {l : Launch} {D : va_G} {tw : Nat} {I : AI} {x : Int32} {m : Nat} (hm : m + 1 < 2 ^ 30) : ZP l D zm_X12_in 0 (zent 3 [.int x, .int (nI 0), .int (nI m)]) [] I (zF tw) (fun v J G => v = some (zb (zix x (m + 1))) ∧ I = J ∧ G = zF tw) := by
  rw [← zix_in2 rfl hm]
  exact c_in
theorem zo_inj {k : Int32} (hk : k.toInt < 0) {a b : Option Nat} (ha : ∀ m, a = some m → m < 2 ^ 31) (hb : ∀ m, b = some m → m < 2 ^ 31) : zo k a = zo k b ↔ a = b := by
  constructor
  · intro h
    have h1 := congrArg Int32.toInt h
    cases a with
    | none =>
      cases b with
      | none => rfl
      | some n => exfalso; simp only [zo, nI_toInt (hb n rfl)] at h1; omega
    | some m =>
      cases b with
      | none => exfalso; simp only [zo, nI_toInt (ha m rfl)] at h1; omega
      | some n => simp only [zo, nI_toInt (ha m rfl), nI_toInt (hb n rfl)] at h1; congr 1; omega
  · intro h; rw [h]
set_option maxRecDepth 20000 in
theorem c_far {l : Launch} {D : va_G} {tw : Nat} {I : AI} {s : Nat → Nat → Nat} (hR : RefV s I) (hT : RefT s) {x y : Int32} : ZP l D zm_X12_far 0 (zent 3 [.ref 109, .int x, .int y]) [] I (zF tw) (fun v J G => v = some (aFar s x y) ∧ I = J ∧ G = zF tw) := by
  have hnc := hT.2.1
  show ZP _ _ _ _ [some _, some _, some _] _ _ _ _
  refine P_aload_n (pc := 0) dX12_far_0 rfl ?_
  refine P_iload_n (pc := 1) dX12_far_1 rfl ?_
  obtain ⟨_, _, _, k1, rfl, rfl, rfl⟩ := c_isCorner (l := l) (D := D) (tw := tw) (x := x) hR (by omega)
  refine P_callV (pc := 2) (S := []) (As := [_]) k1 dX12_far_2 ok_X12_isCorner ml_X12_145 iv_X12_isCorner ⟨by decide, by decide⟩ (zret_b (zix x (s 111 0))) rfl ⟨rfl, by decide⟩ sh_109 ⟨by decide, rfl⟩ (Nat.le_of_ble_eq_true rfl) ?_
  refine P_if_eqB (pc := 5) (tgt := 16) dX12_far_5 (by decide) (fun h5 => ?_) (fun h5 => ?_)
  · refine P_iconst (pc := 16) (x := (-1)) dX12_far_16 (by decide) ?_
    exact P_iret (pc := 17) dX12_far_17 (⟨by unfold aFar; rw [if_neg (by intro z; simp_all)], rfl, rfl⟩)
  · obtain ⟨i, hl_i, rfl⟩ := zix_t h5 (by omega)
    refine P_aload_n (pc := 8) dX12_far_8 rfl ?_
    refine P_iload_n (pc := 9) dX12_far_9 rfl ?_
    obtain ⟨_, _, _, k2, rfl, rfl, rfl⟩ := c_isCorner (l := l) (D := D) (tw := tw) (x := y) hR (by omega)
    refine P_callV (pc := 10) (S := []) (As := [_]) k2 dX12_far_10 ok_X12_isCorner ml_X12_145 iv_X12_isCorner ⟨by decide, by decide⟩ (zret_b (zix y (s 111 0))) rfl ⟨rfl, by decide⟩ sh_109 ⟨by decide, rfl⟩ (Nat.le_of_ble_eq_true rfl) ?_
    refine P_if_neB (pc := 13) (tgt := 18) dX12_far_13 (by decide) (fun h13 => ?_) (fun h13 => ?_)
    · obtain ⟨j, hl_j, rfl⟩ := zix_t h13 (by omega)
      have hij1 := hT.1.1 (8 * i + j)
      have hij2 := hT.1.2 (8 * i + j)
      refine P_aload_n (pc := 18) dX12_far_18 rfl ?_
      refine P_getr (pc := 19) 12 21 dX12_far_19 fl_X12_53 sh_109 fr_12_21 F_109_21 ?_
      refine P_bipush (pc := 22) (x := nI 8) dX12_far_22 (by decide) ?_
      refine P_iload_n (pc := 24) dX12_far_24 rfl ?_
      refine P_imulN (pc := 25) dX12_far_25 ?_
      refine P_iload_n (pc := 26) dX12_far_26 rfl ?_
      refine P_iaddN (pc := 27) dX12_far_27 ?_
      refine P_iald (pc := 28) (((8 * i) + j)) (x := nI (s 124 ((8 * i) + j))) dX12_far_28 sh_124 rfl (by first | omega | (have := hT.1.1 (8 * i + j); omega) | (have := hT.1.2 (8 * i + j); omega)) (by decide) (hR 124 _ rfl) ?_
      refine P_sipush (pc := 29) (x := nI 10000) dX12_far_29 (by decide) ?_
      refine P_icmp_ltN (pc := 32) (tgt := 40) dX12_far_32 (by decide) (by first | omega | (have := hT.1.1 (8 * i + j); omega) | (have := hT.1.2 (8 * i + j); omega)) (by first | omega | (have := hT.1.1 (8 * i + j); omega) | (have := hT.1.2 (8 * i + j); omega)) (fun h32 => ?_) (fun h32 => ?_)
      · refine P_aload_n (pc := 40) dX12_far_40 rfl ?_
        refine P_getr (pc := 41) 12 21 dX12_far_41 fl_X12_53 sh_109 fr_12_21 F_109_21 ?_
        refine P_bipush (pc := 44) (x := nI 8) dX12_far_44 (by decide) ?_
        refine P_iload_n (pc := 46) dX12_far_46 rfl ?_
        refine P_imulN (pc := 47) dX12_far_47 ?_
        refine P_iload_n (pc := 48) dX12_far_48 rfl ?_
        refine P_iaddN (pc := 49) dX12_far_49 ?_
        refine P_iald (pc := 50) (((8 * i) + j)) (x := nI (s 124 ((8 * i) + j))) dX12_far_50 sh_124 rfl (by first | omega | (have := hT.1.1 (8 * i + j); omega) | (have := hT.1.2 (8 * i + j); omega)) (by decide) (hR 124 _ rfl) ?_
        exact P_iret (pc := 51) dX12_far_51 (⟨by unfold aFar; rw [if_pos ⟨h5, h13⟩, nI_clamp (by omega), nI_clamp (by omega)]; first | rw [if_pos (by omega)] | rw [if_neg (by omega)], rfl, rfl⟩)
      · refine P_bipush (pc := 35) (x := (-4)) dX12_far_35 (by decide) ?_
        refine P_goto (pc := 37) (tgt := 51) dX12_far_37 (by decide) ?_
        exact P_iret (pc := 51) dX12_far_51 (⟨by unfold aFar; rw [if_pos ⟨h5, h13⟩, nI_clamp (by omega), nI_clamp (by omega)]; first | rw [if_pos (by omega)] | rw [if_neg (by omega)], rfl, rfl⟩)
    · refine P_iconst (pc := 16) (x := (-1)) dX12_far_16 (by decide) ?_
      exact P_iret (pc := 17) dX12_far_17 (⟨by unfold aFar; rw [if_neg (by intro z; simp_all)], rfl, rfl⟩)
set_option maxRecDepth 20000 in
theorem c_street {l : Launch} {D : va_G} {tw : Nat} {I : AI} {s : Nat → Nat → Nat} (hR : RefV s I) (hT : RefT s) {x y : Int32} : ZP l D zm_X12_street 0 (zent 3 [.ref 109, .int x, .int y]) [] I (zF tw) (fun v J G => v = some (aStreet s x y) ∧ I = J ∧ G = zF tw) := by
  have hnc := hT.2.1
  show ZP _ _ _ _ [some _, some _, some _] _ _ _ _
  refine P_aload_n (pc := 0) dX12_street_0 rfl ?_
  refine P_iload_n (pc := 1) dX12_street_1 rfl ?_
  obtain ⟨_, _, _, k1, rfl, rfl, rfl⟩ := c_isCorner (l := l) (D := D) (tw := tw) (x := x) hR (by omega)
  refine P_callV (pc := 2) (S := []) (As := [_]) k1 dX12_street_2 ok_X12_isCorner ml_X12_145 iv_X12_isCorner ⟨by decide, by decide⟩ (zret_b (zix x (s 111 0))) rfl ⟨rfl, by decide⟩ sh_109 ⟨by decide, rfl⟩ (Nat.le_of_ble_eq_true rfl) ?_
  refine P_if_eqB (pc := 5) (tgt := 16) dX12_street_5 (by decide) (fun h5 => ?_) (fun h5 => ?_)
  · refine P_iconst (pc := 16) (x := (-1)) dX12_street_16 (by decide) ?_
    exact P_iret (pc := 17) dX12_street_17 (⟨by unfold aStreet; rw [if_neg (by intro z; simp_all)], rfl, rfl⟩)
  · obtain ⟨i, hl_i, rfl⟩ := zix_t h5 (by omega)
    refine P_aload_n (pc := 8) dX12_street_8 rfl ?_
    refine P_iload_n (pc := 9) dX12_street_9 rfl ?_
    obtain ⟨_, _, _, k2, rfl, rfl, rfl⟩ := c_isCorner (l := l) (D := D) (tw := tw) (x := y) hR (by omega)
    refine P_callV (pc := 10) (S := []) (As := [_]) k2 dX12_street_10 ok_X12_isCorner ml_X12_145 iv_X12_isCorner ⟨by decide, by decide⟩ (zret_b (zix y (s 111 0))) rfl ⟨rfl, by decide⟩ sh_109 ⟨by decide, rfl⟩ (Nat.le_of_ble_eq_true rfl) ?_
    refine P_if_neB (pc := 13) (tgt := 18) dX12_street_13 (by decide) (fun h13 => ?_) (fun h13 => ?_)
    · obtain ⟨j, hl_j, rfl⟩ := zix_t h13 (by omega)
      have hij1 := hT.1.1 (8 * i + j)
      have hij2 := hT.1.2 (8 * i + j)
      refine P_aload_n (pc := 18) dX12_street_18 rfl ?_
      refine P_getr (pc := 19) 12 20 dX12_street_19 fl_X12_50 sh_109 fr_12_20 F_109_20 ?_
      refine P_bipush (pc := 22) (x := nI 8) dX12_street_22 (by decide) ?_
      refine P_iload_n (pc := 24) dX12_street_24 rfl ?_
      refine P_imulN (pc := 25) dX12_street_25 ?_
      refine P_iload_n (pc := 26) dX12_street_26 rfl ?_
      refine P_iaddN (pc := 27) dX12_street_27 ?_
      refine P_iald (pc := 28) (((8 * i) + j)) (x := nI (s 123 ((8 * i) + j))) dX12_street_28 sh_123 rfl (by first | omega | (have := hT.1.1 (8 * i + j); omega) | (have := hT.1.2 (8 * i + j); omega)) (by decide) (hR 123 _ rfl) ?_
      refine P_sipush (pc := 29) (x := nI 10000) dX12_street_29 (by decide) ?_
      refine P_icmp_neN (pc := 32) (tgt := 40) dX12_street_32 (by decide) (by first | omega | (have := hT.1.1 (8 * i + j); omega) | (have := hT.1.2 (8 * i + j); omega)) (by first | omega | (have := hT.1.1 (8 * i + j); omega) | (have := hT.1.2 (8 * i + j); omega)) (fun h32 => ?_) (fun h32 => ?_)
      · refine P_aload_n (pc := 40) dX12_street_40 rfl ?_
        refine P_getr (pc := 41) 12 20 dX12_street_41 fl_X12_50 sh_109 fr_12_20 F_109_20 ?_
        refine P_bipush (pc := 44) (x := nI 8) dX12_street_44 (by decide) ?_
        refine P_iload_n (pc := 46) dX12_street_46 rfl ?_
        refine P_imulN (pc := 47) dX12_street_47 ?_
        refine P_iload_n (pc := 48) dX12_street_48 rfl ?_
        refine P_iaddN (pc := 49) dX12_street_49 ?_
        refine P_iald (pc := 50) (((8 * i) + j)) (x := nI (s 123 ((8 * i) + j))) dX12_street_50 sh_123 rfl (by first | omega | (have := hT.1.1 (8 * i + j); omega) | (have := hT.1.2 (8 * i + j); omega)) (by decide) (hR 123 _ rfl) ?_
        exact P_iret (pc := 51) dX12_street_51 (⟨by unfold aStreet; rw [if_pos ⟨h5, h13⟩, nI_clamp (by omega), nI_clamp (by omega)]; first | rw [if_pos (by omega)] | rw [if_neg (by omega)], rfl, rfl⟩)
      · refine P_bipush (pc := 35) (x := (-4)) dX12_street_35 (by decide) ?_
        refine P_goto (pc := 37) (tgt := 51) dX12_street_37 (by decide) ?_
        exact P_iret (pc := 51) dX12_street_51 (⟨by unfold aStreet; rw [if_pos ⟨h5, h13⟩, nI_clamp (by omega), nI_clamp (by omega)]; first | rw [if_pos (by omega)] | rw [if_neg (by omega)], rfl, rfl⟩)
    · refine P_iconst (pc := 16) (x := (-1)) dX12_street_16 (by decide) ?_
      exact P_iret (pc := 17) dX12_street_17 (⟨by unfold aStreet; rw [if_neg (by intro z; simp_all)], rfl, rfl⟩)
set_option maxRecDepth 20000 in
theorem c_sign {l : Launch} {D : va_G} {tw : Nat} {I : AI} {s : Nat → Nat → Nat} (hR : RefV s I) (hT : RefT s) (hS : RefS s 0) {x y : Int32} : ZP l D zm_X12_sign 0 (zent 3 [.ref 109, .int x, .int y]) [] I (zF tw) (fun v J G => v = some (aSign s x y) ∧ I = J ∧ G = zF tw) := by
  have hgn := hS.1
  show ZP _ _ _ _ [some _, some _, some _] _ _ _ _
  refine P_aload_n (pc := 0) dX12_sign_0 rfl ?_
  refine P_iload_n (pc := 1) dX12_sign_1 rfl ?_
  obtain ⟨_, _, _, k1, rfl, rfl, rfl⟩ := c_isSign (l := l) (D := D) (tw := tw) (x := x) hR (by omega)
  refine P_callV (pc := 2) (S := []) (As := [_]) k1 dX12_sign_2 ok_X12_isSign ml_X12_149 iv_X12_isSign ⟨by decide, by decide⟩ (zret_b (zix x (s 122 0))) rfl ⟨rfl, by decide⟩ sh_109 ⟨by decide, rfl⟩ (Nat.le_of_ble_eq_true rfl) ?_
  refine P_if_eqB (pc := 5) (tgt := 32) dX12_sign_5 (by decide) (fun h5 => ?_) (fun h5 => ?_)
  · refine P_iconst (pc := 32) (x := (-1)) dX12_sign_32 (by decide) ?_
    exact P_iret (pc := 33) dX12_sign_33 (⟨by unfold aSign; rw [if_neg (by intro z; simp_all)], rfl, rfl⟩)
  · obtain ⟨i, hl_i, rfl⟩ := zix_t h5 (by omega)
    refine P_iload_n (pc := 8) dX12_sign_8 rfl ?_
    refine P_iconst (pc := 9) (x := nI 0) dX12_sign_9 (by decide) ?_
    refine P_iconst (pc := 10) (x := nI 2) dX12_sign_10 (by decide) ?_
    obtain ⟨_, _, _, k2, rfl, rfl, rfl⟩ := c_inN (l := l) (D := D) (tw := tw) (x := y) (m := 2) (by omega)
    refine P_callS (pc := 11) (S := []) (As := [_, _, _]) k2 dX12_sign_11 ok_X12_in ml_X12_94 is_X12_in ⟨by decide, by decide⟩ (zret_b (zix y (2 + 1))) rfl ⟨rfl, by decide⟩ (Nat.le_of_ble_eq_true rfl) ?_
    refine P_if_eqB (pc := 14) (tgt := 32) dX12_sign_14 (by decide) (fun h14 => ?_) (fun h14 => ?_)
    · refine P_iconst (pc := 32) (x := (-1)) dX12_sign_32 (by decide) ?_
      exact P_iret (pc := 33) dX12_sign_33 (⟨by unfold aSign; rw [if_neg (by intro z; simp_all)], rfl, rfl⟩)
    · obtain ⟨j, hl_j, rfl⟩ := zix_t h14 (by omega)
      refine P_aload_n (pc := 17) dX12_sign_17 rfl ?_
      refine P_getr (pc := 18) 12 17 dX12_sign_18 fl_X12_47 sh_109 fr_12_17 F_109_17 ?_
      refine P_iconst (pc := 21) (x := nI 1) dX12_sign_21 (by decide) ?_
      refine P_iconst (pc := 22) (x := nI 3) dX12_sign_22 (by decide) ?_
      refine P_iload_n (pc := 23) dX12_sign_23 rfl ?_
      refine P_imulN (pc := 24) dX12_sign_24 ?_
      refine P_iaddN (pc := 25) dX12_sign_25 ?_
      refine P_iload_n (pc := 26) dX12_sign_26 rfl ?_
      refine P_iaddN (pc := 27) dX12_sign_27 ?_
      refine P_iald (pc := 28) (((1 + (3 * i)) + j)) (x := nI (s 122 ((1 + (3 * i)) + j))) dX12_sign_28 sh_122 rfl (by omega) (by decide) (hR 122 _ rfl) ?_
      refine P_goto (pc := 29) (tgt := 33) dX12_sign_29 (by decide) ?_
      exact P_iret (pc := 33) dX12_sign_33 (⟨by unfold aSign; rw [if_pos ⟨h5, h14⟩, nI_clamp (by omega), nI_clamp (by omega)], rfl, rfl⟩)
set_option maxRecDepth 20000 in
theorem c_walker {l : Launch} {D : va_G} {tw : Nat} {I : AI} {s : Nat → Nat → Nat} (hR : RefV s I) (hT : RefT s) (hP : RefP s) {x y : Int32} : ZP l D zm_X12_walker 0 (zent 3 [.ref 109, .int x, .int y]) [] I (zF tw) (fun v J G => v = some (aWalker s x y) ∧ I = J ∧ G = zF tw) := by
  have hP0 := hP.1
  show ZP _ _ _ _ [some _, some _, some _] _ _ _ _
  refine P_aload_n (pc := 0) dX12_walker_0 rfl ?_
  refine P_iload_n (pc := 1) dX12_walker_1 rfl ?_
  obtain ⟨_, _, _, k1, rfl, rfl, rfl⟩ := c_isWalker (l := l) (D := D) (tw := tw) (x := x) hR (by omega)
  refine P_callV (pc := 2) (S := []) (As := [_]) k1 dX12_walker_2 ok_X12_isWalker ml_X12_152 iv_X12_isWalker ⟨by decide, by decide⟩ (zret_b (zix x (s 116 0))) rfl ⟨rfl, by decide⟩ sh_109 ⟨by decide, rfl⟩ (Nat.le_of_ble_eq_true rfl) ?_
  refine P_if_eqB (pc := 5) (tgt := 17) dX12_walker_5 (by decide) (fun h5 => ?_) (fun h5 => ?_)
  · refine P_iconst (pc := 17) (x := (-1)) dX12_walker_17 (by decide) ?_
    exact P_iret (pc := 18) dX12_walker_18 (⟨by unfold aWalker; rw [if_neg (by intro z; simp_all)], rfl, rfl⟩)
  · obtain ⟨i, hl_i, rfl⟩ := zix_t h5 (by omega)
    refine P_iload_n (pc := 8) dX12_walker_8 rfl ?_
    refine P_iconst (pc := 9) (x := nI 0) dX12_walker_9 (by decide) ?_
    refine P_iconst (pc := 10) (x := nI 3) dX12_walker_10 (by decide) ?_
    obtain ⟨_, _, _, k2, rfl, rfl, rfl⟩ := c_inN (l := l) (D := D) (tw := tw) (x := y) (m := 3) (by omega)
    refine P_callS (pc := 11) (S := []) (As := [_, _, _]) k2 dX12_walker_11 ok_X12_in ml_X12_94 is_X12_in ⟨by decide, by decide⟩ (zret_b (zix y (3 + 1))) rfl ⟨rfl, by decide⟩ (Nat.le_of_ble_eq_true rfl) ?_
    refine P_if_neB (pc := 14) (tgt := 19) dX12_walker_14 (by decide) (fun h14 => ?_) (fun h14 => ?_)
    · obtain ⟨j, hl_j, rfl⟩ := zix_t h14 (by omega)
      have hP1 := hP.1
      refine P_iload_n (pc := 19) dX12_walker_19 rfl ?_
      refine P_if_neN (pc := 20) (tgt := 32) dX12_walker_20 (by decide) (by omega) (fun h20 => ?_) (fun h20 => ?_)
      · refine P_iload_n (pc := 32) dX12_walker_32 rfl ?_
        refine P_iconst (pc := 33) (x := nI 1) dX12_walker_33 (by decide) ?_
        refine P_icmp_neN (pc := 34) (tgt := 46) dX12_walker_34 (by decide) (by omega) (by omega) (fun h34 => ?_) (fun h34 => ?_)
        · refine P_iload_n (pc := 46) dX12_walker_46 rfl ?_
          refine P_iconst (pc := 47) (x := nI 2) dX12_walker_47 (by decide) ?_
          refine P_icmp_neN (pc := 48) (tgt := 60) dX12_walker_48 (by decide) (by omega) (by omega) (fun h48 => ?_) (fun h48 => ?_)
          · refine P_aload_n (pc := 60) dX12_walker_60 rfl ?_
            refine P_getr (pc := 61) 12 17 dX12_walker_61 fl_X12_47 sh_109 fr_12_17 F_109_17 ?_
            refine P_bipush (pc := 64) (x := nI 28) dX12_walker_64 (by decide) ?_
            refine P_iload_n (pc := 66) dX12_walker_66 rfl ?_
            refine P_iaddN (pc := 67) dX12_walker_67 ?_
            refine P_iald (pc := 68) ((28 + i)) (x := nI (s 122 (28 + i))) dX12_walker_68 sh_122 rfl (by omega) (by decide) (hR 122 _ rfl) ?_
            exact P_iret (pc := 69) dX12_walker_69 (⟨by unfold aWalker; rw [if_pos ⟨h5, h14⟩, nI_clamp (by omega), nI_clamp (by omega)]; first | rw [if_pos (by omega)] | rw [if_neg (by omega), if_pos (by omega)] | rw [if_neg (by omega), if_neg (by omega), if_pos (by omega)] | rw [if_neg (by omega), if_neg (by omega), if_neg (by omega)], rfl, rfl⟩)
          · refine P_aload_n (pc := 51) dX12_walker_51 rfl ?_
            refine P_getr (pc := 52) 12 10 dX12_walker_52 fl_X12_38 sh_109 fr_12_10 F_109_10 ?_
            refine P_iload_n (pc := 55) dX12_walker_55 rfl ?_
            refine P_iald (pc := 56) (i) (x := nI (s 119 i)) dX12_walker_56 sh_119 rfl (by omega) (by decide) (hR 119 _ rfl) ?_
            refine P_goto (pc := 57) (tgt := 69) dX12_walker_57 (by decide) ?_
            exact P_iret (pc := 69) dX12_walker_69 (⟨by unfold aWalker; rw [if_pos ⟨h5, h14⟩, nI_clamp (by omega), nI_clamp (by omega)]; first | rw [if_pos (by omega)] | rw [if_neg (by omega), if_pos (by omega)] | rw [if_neg (by omega), if_neg (by omega), if_pos (by omega)] | rw [if_neg (by omega), if_neg (by omega), if_neg (by omega)], rfl, rfl⟩)
        · refine P_aload_n (pc := 37) dX12_walker_37 rfl ?_
          refine P_getr (pc := 38) 12 9 dX12_walker_38 fl_X12_35 sh_109 fr_12_9 F_109_9 ?_
          refine P_iload_n (pc := 41) dX12_walker_41 rfl ?_
          refine P_iald (pc := 42) (i) (x := nI (s 118 i)) dX12_walker_42 sh_118 rfl (by omega) (by decide) (hR 118 _ rfl) ?_
          refine P_goto (pc := 43) (tgt := 69) dX12_walker_43 (by decide) ?_
          exact P_iret (pc := 69) dX12_walker_69 (⟨by unfold aWalker; rw [if_pos ⟨h5, h14⟩, nI_clamp (by omega), nI_clamp (by omega)]; first | rw [if_pos (by omega)] | rw [if_neg (by omega), if_pos (by omega)] | rw [if_neg (by omega), if_neg (by omega), if_pos (by omega)] | rw [if_neg (by omega), if_neg (by omega), if_neg (by omega)], rfl, rfl⟩)
      · refine P_aload_n (pc := 23) dX12_walker_23 rfl ?_
        refine P_getr (pc := 24) 12 8 dX12_walker_24 fl_X12_32 sh_109 fr_12_8 F_109_8 ?_
        refine P_iload_n (pc := 27) dX12_walker_27 rfl ?_
        refine P_iald (pc := 28) (i) (x := nI (s 117 i)) dX12_walker_28 sh_117 rfl (by omega) (by decide) (hR 117 _ rfl) ?_
        refine P_goto (pc := 29) (tgt := 69) dX12_walker_29 (by decide) ?_
        exact P_iret (pc := 69) dX12_walker_69 (⟨by unfold aWalker; rw [if_pos ⟨h5, h14⟩, nI_clamp (by omega), nI_clamp (by omega)]; first | rw [if_pos (by omega)] | rw [if_neg (by omega), if_pos (by omega)] | rw [if_neg (by omega), if_neg (by omega), if_pos (by omega)] | rw [if_neg (by omega), if_neg (by omega), if_neg (by omega)], rfl, rfl⟩)
    · refine P_iconst (pc := 17) (x := (-1)) dX12_walker_17 (by decide) ?_
      exact P_iret (pc := 18) dX12_walker_18 (⟨by unfold aWalker; rw [if_neg (by intro z; simp_all)], rfl, rfl⟩)
