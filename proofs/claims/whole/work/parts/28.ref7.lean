set_option maxRecDepth 20000 in
theorem c_put {l : Launch} {D : va_G} {tw : Nat} {I : AI} {s : Nat → Nat → Nat} (hA : RefA s I) (hT : RefT s) (hP : RefP s) (hg8 : s 122 0 ≤ 8) (hd8 : s 109 18 ≤ 8) {x y z : Int32} : ZP l D zm_X12_put 0 (zent 4 [.ref 109, .int x, .int y, .int z]) [] I (zF tw) (fun v J G => v = some (aPut s x y z) ∧ G = zF tw ∧ RefA (nPut s x y z) J ∧ zFrm I J) := by
  have hR := hA.1
  have hnc := hT.2.1
  have hP0 := hP.1
  show ZP _ _ _ _ [some _, some _, some _, some _] _ _ _ _
  refine P_aload_n (pc := 0) dX12_put_0 rfl ?_
  refine P_iload_n (pc := 1) dX12_put_1 rfl ?_
  obtain ⟨_, _, _, k1, rfl, rfl, rfl⟩ := c_isCorner (l := l) (D := D) (tw := tw) (x := x) hR (by omega)
  refine P_callV (pc := 2) (S := []) (As := [_]) k1 dX12_put_2 ok_X12_isCorner ml_X12_145 iv_X12_isCorner ⟨by decide, by decide⟩ (zret_b (zix x (s 111 0))) rfl ⟨rfl, by decide⟩ sh_109 ⟨by decide, rfl⟩ (Nat.le_of_ble_eq_true rfl) ?_
  refine P_if_eqB (pc := 5) (tgt := 24) dX12_put_5 (by decide) (fun h5 => ?_) (fun h5 => ?_)
  · refine P_iconst (pc := 24) (x := (-1)) dX12_put_24 (by decide) ?_
    refine P_iret (pc := 25) dX12_put_25 ?_
    refine ⟨?_, rfl, ?_, zFrm.rf⟩
    · unfold aPut; rw [if_neg (by intro z; simp_all)]
    · unfold nPut; rw [if_neg (by intro z; simp_all)]; exact hA
  · obtain ⟨i, hl_i, rfl⟩ := zix_t h5 (by omega)
    refine P_aload_n (pc := 8) dX12_put_8 rfl ?_
    refine P_iload_n (pc := 9) dX12_put_9 rfl ?_
    obtain ⟨_, _, _, k2, rfl, rfl, rfl⟩ := c_isCorner (l := l) (D := D) (tw := tw) (x := y) hR (by omega)
    refine P_callV (pc := 10) (S := []) (As := [_]) k2 dX12_put_10 ok_X12_isCorner ml_X12_145 iv_X12_isCorner ⟨by decide, by decide⟩ (zret_b (zix y (s 111 0))) rfl ⟨rfl, by decide⟩ sh_109 ⟨by decide, rfl⟩ (Nat.le_of_ble_eq_true rfl) ?_
    refine P_if_eqB (pc := 13) (tgt := 24) dX12_put_13 (by decide) (fun h13 => ?_) (fun h13 => ?_)
    · refine P_iconst (pc := 24) (x := (-1)) dX12_put_24 (by decide) ?_
      refine P_iret (pc := 25) dX12_put_25 ?_
      refine ⟨?_, rfl, ?_, zFrm.rf⟩
      · unfold aPut; rw [if_neg (by intro z; simp_all)]
      · unfold nPut; rw [if_neg (by intro z; simp_all)]; exact hA
    · obtain ⟨j, hl_j, rfl⟩ := zix_t h13 (by omega)
      refine P_aload_n (pc := 16) dX12_put_16 rfl ?_
      refine P_iload_n (pc := 17) dX12_put_17 rfl ?_
      obtain ⟨_, _, _, k3, rfl, rfl, rfl⟩ := c_isCorner (l := l) (D := D) (tw := tw) (x := z) hR (by omega)
      refine P_callV (pc := 18) (S := []) (As := [_]) k3 dX12_put_18 ok_X12_isCorner ml_X12_145 iv_X12_isCorner ⟨by decide, by decide⟩ (zret_b (zix z (s 111 0))) rfl ⟨rfl, by decide⟩ sh_109 ⟨by decide, rfl⟩ (Nat.le_of_ble_eq_true rfl) ?_
      refine P_if_neB (pc := 21) (tgt := 26) dX12_put_21 (by decide) (fun h21 => ?_) (fun h21 => ?_)
      · obtain ⟨k, hl_k, rfl⟩ := zix_t h21 (by omega)
        refine P_aload_n (pc := 26) dX12_put_26 rfl ?_
        refine P_getr (pc := 27) 12 17 dX12_put_27 fl_X12_47 sh_109 fr_12_17 F_109_17 ?_
        refine P_iconst (pc := 30) (x := nI 0) dX12_put_30 (by decide) ?_
        refine P_iald (pc := 31) (0) (x := nI (s 122 0)) dX12_put_31 sh_122 rfl (by omega) (by decide) (hA.1 122 _ rfl) ?_
        refine P_bipush (pc := 32) (x := nI 8) dX12_put_32 (by decide) ?_
        refine P_icmp_neN (pc := 34) (tgt := 40) dX12_put_34 (by decide) (by omega) (by omega) (fun h34 => ?_) (fun h34 => ?_)
        · refine P_aload_n (pc := 40) dX12_put_40 rfl ?_
          obtain ⟨_, J, _, kn, rfl, rfl, h2⟩ := c_know (l := l) (D := D) (tw := tw) (f := s 122) (e := s 109 18) (fun j => hA.1 122 j rfl) (hA.2 18 rfl) hd8
          refine P_callV (pc := 41) (S := []) (As := []) kn dX12_put_41 ok_X12_know ml_X12_206 iv_X12_know ⟨by decide, by decide⟩ zret_v rfl ⟨rfl, by decide⟩ sh_109 ⟨by decide, rfl⟩ (Nat.le_of_ble_eq_true rfl) ?_
          refine P_aload_n (pc := 44) dX12_put_44 rfl ?_
          refine P_iconst (pc := 45) (x := nI 0) dX12_put_45 (by decide) ?_
          refine P_iload_n (pc := 46) dX12_put_46 rfl ?_
          refine P_iload_n (pc := 47) dX12_put_47 rfl ?_
          refine P_iload_n (pc := 48) dX12_put_48 rfl ?_
          obtain ⟨_, K, _, kp, rfl, rfl, h1⟩ := c_putUp (l := l) (D := D) (tw := tw) (b := 0) (c := i) (t := j) (n := k) h2.2.2.2 (by omega) (by rw [zKnow_lo (by omega)]; omega)
          refine P_callV (pc := 49) (S := []) (As := [_, _, _, _]) kp dX12_put_49 ok_X12_putUp ml_X12_209 iv_X12_putUp ⟨by decide, by decide⟩ zret_v rfl ⟨rfl, by decide⟩ sh_109 ⟨by decide, rfl⟩ (Nat.le_of_ble_eq_true rfl) ?_
          refine P_aload_n (pc := 52) dX12_put_52 rfl ?_
          refine P_getr (pc := 53) 12 17 dX12_put_53 fl_X12_47 sh_109 fr_12_17 F_109_17 ?_
          refine P_iconst (pc := 56) (x := nI 0) dX12_put_56 (by decide) ?_
          refine P_iald (pc := 57) (0) (x := nI (s 122 0 + 1)) dX12_put_57 sh_122 rfl (by omega) (by decide) (by rw [h1.2 0]; unfold zPutUp; rw [va_up_s, zKnow_lo (by omega)]) ?_
          refine P_iret (pc := 58) dX12_put_58 ?_
          have h3 := h2.then h1
          refine ⟨?_, rfl, ?_, h3.frm⟩
          · unfold aPut; rw [if_pos ⟨h5, h13, h21⟩, if_neg (by omega)]
          · unfold nPut; rw [if_pos ⟨⟨h5, h13, h21⟩, by omega⟩, nI_clamp (by omega), nI_clamp (by omega), nI_clamp (by omega)]; exact h3.R hA
        · refine P_bipush (pc := 37) (x := (-3)) dX12_put_37 (by decide) ?_
          refine P_iret (pc := 39) dX12_put_39 ?_
          refine ⟨?_, rfl, ?_, zFrm.rf⟩
          · unfold aPut; rw [if_pos ⟨h5, h13, h21⟩, if_pos (by omega)]
          · unfold nPut; rw [if_neg (fun z => z.2 (by omega))]; exact hA
      · refine P_iconst (pc := 24) (x := (-1)) dX12_put_24 (by decide) ?_
        refine P_iret (pc := 25) dX12_put_25 ?_
        refine ⟨?_, rfl, ?_, zFrm.rf⟩
        · unfold aPut; rw [if_neg (by intro z; simp_all)]
        · unfold nPut; rw [if_neg (by intro z; simp_all)]; exact hA
set_option maxRecDepth 20000 in
theorem c_take {l : Launch} {D : va_G} {tw : Nat} {I : AI} {s : Nat → Nat → Nat} (hA : RefA s I) (hT : RefT s) (hP : RefP s) (hg8 : s 122 0 ≤ 8) (hd8 : s 109 18 ≤ 8) {x : Int32} : ZP l D zm_X12_take 0 (zent 2 [.ref 109, .int x]) [] I (zF tw) (fun v J G => v = some (aTake s x) ∧ G = zF tw ∧ RefA (nTake s x) J ∧ zFrm I J) := by
  have hR := hA.1
  have hnc := hT.2.1
  have hP0 := hP.1
  show ZP _ _ _ _ [some _, some _] _ _ _ _
  refine P_aload_n (pc := 0) dX12_take_0 rfl ?_
  refine P_iload_n (pc := 1) dX12_take_1 rfl ?_
  obtain ⟨_, _, _, k1, rfl, rfl, rfl⟩ := c_isSign (l := l) (D := D) (tw := tw) (x := x) hR (by omega)
  refine P_callV (pc := 2) (S := []) (As := [_]) k1 dX12_take_2 ok_X12_isSign ml_X12_149 iv_X12_isSign ⟨by decide, by decide⟩ (zret_b (zix x (s 122 0))) rfl ⟨rfl, by decide⟩ sh_109 ⟨by decide, rfl⟩ (Nat.le_of_ble_eq_true rfl) ?_
  refine P_if_neB (pc := 5) (tgt := 10) dX12_take_5 (by decide) (fun h5 => ?_) (fun h5 => ?_)
  · obtain ⟨i, hl_i, rfl⟩ := zix_t h5 (by omega)
    refine P_aload_n (pc := 10) dX12_take_10 rfl ?_
    obtain ⟨_, J, _, kn, rfl, rfl, h2⟩ := c_know (l := l) (D := D) (tw := tw) (f := s 122) (e := s 109 18) (fun j => hA.1 122 j rfl) (hA.2 18 rfl) hd8
    refine P_callV (pc := 11) (S := []) (As := []) kn dX12_take_11 ok_X12_know ml_X12_206 iv_X12_know ⟨by decide, by decide⟩ zret_v rfl ⟨rfl, by decide⟩ sh_109 ⟨by decide, rfl⟩ (Nat.le_of_ble_eq_true rfl) ?_
    refine P_aload_n (pc := 14) dX12_take_14 rfl ?_
    refine P_iconst (pc := 15) (x := nI 0) dX12_take_15 (by decide) ?_
    refine P_iload_n (pc := 16) dX12_take_16 rfl ?_
    obtain ⟨_, K, _, kp, rfl, rfl, h1⟩ := c_takeDown (l := l) (D := D) (tw := tw) (b := 0) (k := i) h2.2.2.2 (by omega) (by rw [zKnow_lo (by omega)]; exact hl_i) (by rw [zKnow_lo (by omega)]; omega)
    refine P_callV (pc := 17) (S := []) (As := [_, _]) kp dX12_take_17 ok_X12_takeDown ml_X12_213 iv_X12_takeDown ⟨by decide, by decide⟩ zret_v rfl ⟨rfl, by decide⟩ sh_109 ⟨by decide, rfl⟩ (Nat.le_of_ble_eq_true rfl) ?_
    refine P_aload_n (pc := 20) dX12_take_20 rfl ?_
    refine P_getr (pc := 21) 12 17 dX12_take_21 fl_X12_47 sh_109 fr_12_17 F_109_17 ?_
    refine P_iconst (pc := 24) (x := nI 0) dX12_take_24 (by decide) ?_
    refine P_iald (pc := 25) (0) (x := nI (s 122 0 - 1)) dX12_take_25 sh_122 rfl (by omega) (by decide) (by rw [h1.2 0]; unfold zTakeDown; rw [if_pos rfl, zKnow_lo (by omega)]) ?_
    refine P_iret (pc := 26) dX12_take_26 ?_
    have h3 := h2.then h1
    refine ⟨?_, rfl, ?_, h3.frm⟩
    · unfold aTake; rw [if_pos h5]
    · unfold nTake; rw [if_pos h5, nI_clamp (by omega)]; exact h3.R hA
  · refine P_iconst (pc := 8) (x := (-1)) dX12_take_8 (by decide) ?_
    refine P_iret (pc := 9) dX12_take_9 ?_
    refine ⟨?_, rfl, ?_, zFrm.rf⟩
    · unfold aTake; rw [if_neg (by intro z; simp_all)]
    · unfold nTake; rw [if_neg (by intro z; simp_all)]; exact hA
set_option maxRecDepth 20000 in
theorem c_tell {l : Launch} {D : va_G} {tw : Nat} {I : AI} {s : Nat → Nat → Nat} (hA : RefA s I) (hT : RefT s) (hP : RefP s) (hd8 : s 109 18 ≤ 8) {x y : Int32} : ZP l D zm_X12_tell 0 (zent 4 [.ref 109, .int x, .int y]) [] I (zF tw) (fun v J G => v = some (aTell s x y) ∧ G = zF tw ∧ RefA (nTell s x y) J ∧ zFrm I J) := by
  have hR := hA.1
  have hnc := hT.2.1
  have hP0 := hP.1
  show ZP _ _ _ _ [some _, some _, some _, none] _ _ _ _
  refine P_aload_n (pc := 0) dX12_tell_0 rfl ?_
  refine P_iload_n (pc := 1) dX12_tell_1 rfl ?_
  obtain ⟨_, _, _, k1, rfl, rfl, rfl⟩ := c_isWalker (l := l) (D := D) (tw := tw) (x := x) hR (by omega)
  refine P_callV (pc := 2) (S := []) (As := [_]) k1 dX12_tell_2 ok_X12_isWalker ml_X12_152 iv_X12_isWalker ⟨by decide, by decide⟩ (zret_b (zix x (s 116 0))) rfl ⟨rfl, by decide⟩ sh_109 ⟨by decide, rfl⟩ (Nat.le_of_ble_eq_true rfl) ?_
  refine P_if_eqB (pc := 5) (tgt := 16) dX12_tell_5 (by decide) (fun h5 => ?_) (fun h5 => ?_)
  · refine P_iconst (pc := 16) (x := (-1)) dX12_tell_16 (by decide) ?_
    refine P_iret (pc := 17) dX12_tell_17 ?_
    refine ⟨?_, rfl, ?_, zFrm.rf⟩
    · unfold aTell; rw [if_neg (by intro z; simp_all)]
    · unfold nTell; rw [if_neg (by intro z; simp_all)]; exact hA
  · obtain ⟨i, hl_i, rfl⟩ := zix_t h5 (by omega)
    refine P_aload_n (pc := 8) dX12_tell_8 rfl ?_
    refine P_iload_n (pc := 9) dX12_tell_9 rfl ?_
    obtain ⟨_, _, _, k2, rfl, rfl, rfl⟩ := c_isCorner (l := l) (D := D) (tw := tw) (x := y) hR (by omega)
    refine P_callV (pc := 10) (S := []) (As := [_]) k2 dX12_tell_10 ok_X12_isCorner ml_X12_145 iv_X12_isCorner ⟨by decide, by decide⟩ (zret_b (zix y (s 111 0))) rfl ⟨rfl, by decide⟩ sh_109 ⟨by decide, rfl⟩ (Nat.le_of_ble_eq_true rfl) ?_
    refine P_if_neB (pc := 13) (tgt := 18) dX12_tell_13 (by decide) (fun h13 => ?_) (fun h13 => ?_)
    · obtain ⟨j, hl_j, rfl⟩ := zix_t h13 (by omega)
      refine P_aload_n (pc := 18) dX12_tell_18 rfl ?_
      obtain ⟨_, J, _, kn, rfl, rfl, h2⟩ := c_know (l := l) (D := D) (tw := tw) (f := s 122) (e := s 109 18) (fun j => hA.1 122 j rfl) (hA.2 18 rfl) hd8
      refine P_callV (pc := 19) (S := []) (As := []) kn dX12_tell_19 ok_X12_know ml_X12_206 iv_X12_know ⟨by decide, by decide⟩ zret_v rfl ⟨rfl, by decide⟩ sh_109 ⟨by decide, rfl⟩ (Nat.le_of_ble_eq_true rfl) ?_
      refine P_aload_n (pc := 22) dX12_tell_22 rfl ?_
      refine P_getr (pc := 23) 12 17 dX12_tell_23 fl_X12_47 sh_109 fr_12_17 F_109_17 ?_
      refine P_bipush (pc := 26) (x := nI 28) dX12_tell_26 (by decide) ?_
      refine P_iload_n (pc := 28) dX12_tell_28 rfl ?_
      refine P_iaddN (pc := 29) dX12_tell_29 ?_
      refine P_iald (pc := 30) ((28 + i)) (x := nI (s 122 (28 + i))) dX12_tell_30 sh_122 rfl (by omega) (by decide) (by rw [h2.2.2.2, zKnow_lo (by omega)]) ?_
      refine P_istore_n (pc := 31) dX12_tell_31 (by decide) rfl ?_
      refine P_aload_n (pc := 32) dX12_tell_32 rfl ?_
      refine P_getr (pc := 33) 12 17 dX12_tell_33 fl_X12_47 sh_109 fr_12_17 F_109_17 ?_
      refine P_bipush (pc := 36) (x := nI 28) dX12_tell_36 (by decide) ?_
      refine P_iload_n (pc := 38) dX12_tell_38 rfl ?_
      refine P_iaddN (pc := 39) dX12_tell_39 ?_
      refine P_iload_n (pc := 40) dX12_tell_40 rfl ?_
      refine P_iast (pc := 41) ((28 + i)) dX12_tell_41 sh_122 rfl (by omega) (by decide) ?_
      refine P_iload_n (pc := 42) dX12_tell_42 rfl ?_
      refine P_iret (pc := 43) dX12_tell_43 ?_
      have h1 : zF1 J (zu J 122 (28 + i) (nI j)) (va_up (zKnow (s 122) (s 109 18)) (28 + i) j) := ⟨fun x hx => zu_o _ _ hx, fun q => by
        by_cases e : q = 28 + i
        · rw [e, zu_s, va_up_s]
        · rw [zu_n _ _ e, va_up_n _ _ e]; exact h2.2.2.2 q⟩
      have h3 := h2.then h1
      refine ⟨?_, rfl, ?_, h3.frm⟩
      · unfold aTell; rw [if_pos ⟨h5, h13⟩, nI_clamp (by omega)]
      · unfold nTell; rw [if_pos ⟨h5, h13⟩, nI_clamp (by omega), nI_clamp (by omega)]; exact h3.R hA
    · refine P_iconst (pc := 16) (x := (-1)) dX12_tell_16 (by decide) ?_
      refine P_iret (pc := 17) dX12_tell_17 ?_
      refine ⟨?_, rfl, ?_, zFrm.rf⟩
      · unfold aTell; rw [if_neg (by intro z; simp_all)]
      · unfold nTell; rw [if_neg (by intro z; simp_all)]; exact hA
set_option maxRecDepth 20000 in
theorem c_undo {l : Launch} {D : va_G} {tw : Nat} {I : AI} {s : Nat → Nat → Nat} (hA : RefA s I) (hT : RefT s) (hP : RefP s) (hd8 : s 109 18 ≤ 8) : ZP l D zm_X12_undo 0 (zent 1 [.ref 109]) [] I (zF tw) (fun v J G => v = some (aUndo s) ∧ G = zF tw ∧ RefA (nUndo s) J ∧ zFrm I J) := by
  have hR := hA.1
  have hnc := hT.2.1
  have hP0 := hP.1
  show ZP _ _ _ _ [some _] _ _ _ _
  refine P_aload_n (pc := 0) dX12_undo_0 rfl ?_
  refine P_geti (pc := 1) 12 18 (x := nI (s 109 18)) dX12_undo_1 fl_X12_129 sh_109 fi_12_18 (hA.2 18 rfl) ?_
  refine P_if_neN (pc := 4) (tgt := 10) dX12_undo_4 (by decide) (by omega) (fun h4 => ?_) (fun h4 => ?_)
  · refine P_aload_n (pc := 10) dX12_undo_10 rfl ?_
    refine P_dup (pc := 11) dX12_undo_11 rfl ?_
    refine P_geti (pc := 12) 12 18 (x := nI (s 109 18)) dX12_undo_12 fl_X12_129 sh_109 fi_12_18 (hA.2 18 rfl) ?_
    refine P_iconst (pc := 15) (x := nI 1) dX12_undo_15 (by decide) ?_
    refine P_isubN (pc := 16) dX12_undo_16 (by omega) ?_
    refine P_puti (pc := 17) 12 18 dX12_undo_17 fl_X12_129 sh_109 fp_12_18 rfl rfl ?_
    refine P_aload_n (pc := 20) dX12_undo_20 rfl ?_
    refine P_bipush (pc := 21) (x := nI 32) dX12_undo_21 (by decide) ?_
    refine P_bipush (pc := 23) (x := nI 32) dX12_undo_23 (by decide) ?_
    refine P_aload_n (pc := 25) dX12_undo_25 rfl ?_
    refine P_geti (pc := 26) 12 18 (x := nI (s 109 18 - 1)) dX12_undo_26 fl_X12_129 sh_109 fi_12_18 (rfl) ?_
    refine P_imulN (pc := 29) dX12_undo_29 ?_
    refine P_iaddN (pc := 30) dX12_undo_30 ?_
    refine P_iconst (pc := 31) (x := nI 0) dX12_undo_31 (by decide) ?_
    obtain ⟨_, K, _, kc, rfl, rfl, hC⟩ := c_copy (l := l) (D := D) (tw := tw) (a := (32 + 32 * (s 109 18 - 1))) (b := 0) (f := s 122) (I := zu I 109 18 (nI (s 109 18 - 1))) (fun j => hA.1 122 j rfl) (by omega) (by omega) (by omega)
    refine P_callV (pc := 32) (S := []) (As := [_, _]) kc dX12_undo_32 ok_X12_copy ml_X12_203 iv_X12_copy ⟨by decide, by decide⟩ zret_v rfl ⟨rfl, by decide⟩ sh_109 ⟨by decide, rfl⟩ (Nat.le_of_ble_eq_true rfl) ?_
    refine P_aload_n (pc := 35) dX12_undo_35 rfl ?_
    refine P_geti (pc := 36) 12 18 (x := nI (s 109 18 - 1)) dX12_undo_36 fl_X12_129 sh_109 fi_12_18 (by rw [hC.1 109 (by decide), zu_s]) ?_
    refine P_iret (pc := 39) dX12_undo_39 ?_
    have h3 : zF2 I K (zCopy (s 122) (32 + 32 * (s 109 18 - 1)) 0) (s 109 18 - 1) := ⟨fun a h5 h6 => by rw [hC.1 a h5, zu_o _ _ h6], fun k hk => by rw [hC.1 109 (by decide), zu_n _ _ hk], by rw [hC.1 109 (by decide), zu_s], hC.2⟩
    refine ⟨?_, rfl, ?_, h3.frm⟩
    · unfold aUndo; rw [if_neg h4]
    · unfold nUndo; rw [if_neg h4]; exact h3.R hA
  · refine P_bipush (pc := 7) (x := (-2)) dX12_undo_7 (by decide) ?_
    refine P_iret (pc := 9) dX12_undo_9 ?_
    refine ⟨?_, rfl, ?_, zFrm.rf⟩
    · unfold aUndo; rw [if_pos h4]
    · unfold nUndo; rw [if_pos h4]; exact hA
set_option maxRecDepth 20000 in
theorem c_keep {l : Launch} {D : va_G} {tw : Nat} {I : AI} {s : Nat → Nat → Nat} (hA : RefA s I) (hT : RefT s) (hP : RefP s) (hk2 : s 109 19 ≤ 2) : ZP l D zm_X12_keep 0 (zent 1 [.ref 109]) [] I (zF tw) (fun v J G => v = some (aKeep s) ∧ G = zF tw ∧ RefA (nKeep s) J ∧ zFrm I J) := by
  have hR := hA.1
  have hnc := hT.2.1
  have hP0 := hP.1
  show ZP _ _ _ _ [some _] _ _ _ _
  refine P_aload_n (pc := 0) dX12_keep_0 rfl ?_
  refine P_geti (pc := 1) 12 19 (x := nI (s 109 19)) dX12_keep_1 fl_X12_132 sh_109 fi_12_19 (hA.2 19 rfl) ?_
  refine P_iconst (pc := 4) (x := nI 2) dX12_keep_4 (by decide) ?_
  refine P_icmp_neN (pc := 5) (tgt := 11) dX12_keep_5 (by decide) (by omega) (by omega) (fun h5 => ?_) (fun h5 => ?_)
  · refine P_aload_n (pc := 11) dX12_keep_11 rfl ?_
    refine P_iconst (pc := 12) (x := nI 0) dX12_keep_12 (by decide) ?_
    refine P_sipush (pc := 13) (x := nI 288) dX12_keep_13 (by decide) ?_
    refine P_bipush (pc := 16) (x := nI 32) dX12_keep_16 (by decide) ?_
    refine P_aload_n (pc := 18) dX12_keep_18 rfl ?_
    refine P_geti (pc := 19) 12 19 (x := nI (s 109 19)) dX12_keep_19 fl_X12_132 sh_109 fi_12_19 (hA.2 19 rfl) ?_
    refine P_imulN (pc := 22) dX12_keep_22 ?_
    refine P_iaddN (pc := 23) dX12_keep_23 ?_
    obtain ⟨_, K, _, kc, rfl, rfl, hC⟩ := c_copy (l := l) (D := D) (tw := tw) (a := 0) (b := (288 + 32 * s 109 19)) (f := s 122) (fun j => hA.1 122 j rfl) (by omega) (by omega) (by omega)
    refine P_callV (pc := 24) (S := []) (As := [_, _]) kc dX12_keep_24 ok_X12_copy ml_X12_203 iv_X12_copy ⟨by decide, by decide⟩ zret_v rfl ⟨rfl, by decide⟩ sh_109 ⟨by decide, rfl⟩ (Nat.le_of_ble_eq_true rfl) ?_
    refine P_aload_n (pc := 27) dX12_keep_27 rfl ?_
    refine P_dup (pc := 28) dX12_keep_28 rfl ?_
    refine P_geti (pc := 29) 12 19 (x := nI (s 109 19)) dX12_keep_29 fl_X12_132 sh_109 fi_12_19 (by rw [hC.1 109 (by decide)]; exact hA.2 19 rfl) ?_
    refine P_iconst (pc := 32) (x := nI 1) dX12_keep_32 (by decide) ?_
    refine P_iaddN (pc := 33) dX12_keep_33 ?_
    refine P_puti (pc := 34) 12 19 dX12_keep_34 fl_X12_132 sh_109 fp_12_19 rfl rfl ?_
    refine P_aload_n (pc := 37) dX12_keep_37 rfl ?_
    refine P_geti (pc := 38) 12 19 (x := nI (s 109 19 + 1)) dX12_keep_38 fl_X12_132 sh_109 fi_12_19 (rfl) ?_
    refine P_iret (pc := 41) dX12_keep_41 ?_
    refine ⟨?_, rfl, ?_, fun a ha => by rw [zu_o _ _ (by omega)]; exact hC.1 a (by omega)⟩
    · unfold aKeep; rw [if_neg (by omega)]
    · unfold nKeep; rw [if_neg (by omega)]; exact (hC.R hA).u 109 19 (s 109 19 + 1)
  · refine P_bipush (pc := 8) (x := (-3)) dX12_keep_8 (by decide) ?_
    refine P_iret (pc := 10) dX12_keep_10 ?_
    refine ⟨?_, rfl, ?_, zFrm.rf⟩
    · unfold aKeep; rw [if_pos (by omega)]
    · unfold nKeep; rw [if_pos (by omega)]; exact hA
set_option maxRecDepth 20000 in
theorem c_back {l : Launch} {D : va_G} {tw : Nat} {I : AI} {s : Nat → Nat → Nat} (hA : RefA s I) (hT : RefT s) (hP : RefP s) (hk2 : s 109 19 ≤ 2) : ZP l D zm_X12_back 0 (zent 1 [.ref 109]) [] I (zF tw) (fun v J G => v = some (aBack s) ∧ G = zF tw ∧ RefA (nBack s) J ∧ zFrm I J) := by
  have hR := hA.1
  have hnc := hT.2.1
  have hP0 := hP.1
  show ZP _ _ _ _ [some _] _ _ _ _
  refine P_aload_n (pc := 0) dX12_back_0 rfl ?_
  refine P_geti (pc := 1) 12 19 (x := nI (s 109 19)) dX12_back_1 fl_X12_132 sh_109 fi_12_19 (hA.2 19 rfl) ?_
  refine P_if_neN (pc := 4) (tgt := 10) dX12_back_4 (by decide) (by omega) (fun h4 => ?_) (fun h4 => ?_)
  · refine P_aload_n (pc := 10) dX12_back_10 rfl ?_
    refine P_dup (pc := 11) dX12_back_11 rfl ?_
    refine P_geti (pc := 12) 12 19 (x := nI (s 109 19)) dX12_back_12 fl_X12_132 sh_109 fi_12_19 (hA.2 19 rfl) ?_
    refine P_iconst (pc := 15) (x := nI 1) dX12_back_15 (by decide) ?_
    refine P_isubN (pc := 16) dX12_back_16 (by omega) ?_
    refine P_puti (pc := 17) 12 19 dX12_back_17 fl_X12_132 sh_109 fp_12_19 rfl rfl ?_
    refine P_aload_n (pc := 20) dX12_back_20 rfl ?_
    refine P_sipush (pc := 21) (x := nI 288) dX12_back_21 (by decide) ?_
    refine P_bipush (pc := 24) (x := nI 32) dX12_back_24 (by decide) ?_
    refine P_aload_n (pc := 26) dX12_back_26 rfl ?_
    refine P_geti (pc := 27) 12 19 (x := nI (s 109 19 - 1)) dX12_back_27 fl_X12_132 sh_109 fi_12_19 (rfl) ?_
    refine P_imulN (pc := 30) dX12_back_30 ?_
    refine P_iaddN (pc := 31) dX12_back_31 ?_
    refine P_iconst (pc := 32) (x := nI 0) dX12_back_32 (by decide) ?_
    obtain ⟨_, K, _, kc, rfl, rfl, hC⟩ := c_copy (l := l) (D := D) (tw := tw) (a := (288 + 32 * (s 109 19 - 1))) (b := 0) (f := s 122) (I := zu I 109 19 (nI (s 109 19 - 1))) (fun j => hA.1 122 j rfl) (by omega) (by omega) (by omega)
    refine P_callV (pc := 33) (S := []) (As := [_, _]) kc dX12_back_33 ok_X12_copy ml_X12_203 iv_X12_copy ⟨by decide, by decide⟩ zret_v rfl ⟨rfl, by decide⟩ sh_109 ⟨by decide, rfl⟩ (Nat.le_of_ble_eq_true rfl) ?_
    refine P_aload_n (pc := 36) dX12_back_36 rfl ?_
    refine P_iconst (pc := 37) (x := nI 0) dX12_back_37 (by decide) ?_
    refine P_puti (pc := 38) 12 18 dX12_back_38 fl_X12_129 sh_109 fp_12_18 rfl rfl ?_
    refine P_aload_n (pc := 41) dX12_back_41 rfl ?_
    refine P_geti (pc := 42) 12 19 (x := nI (s 109 19 - 1)) dX12_back_42 fl_X12_132 sh_109 fi_12_19 ((congrFun (hC.1 109 (by decide)) 19).trans rfl) ?_
    refine P_iret (pc := 45) dX12_back_45 ?_
    refine ⟨?_, rfl, ?_, fun a ha => by rw [zu_o _ _ (by omega), hC.1 a (by omega), zu_o _ _ (by omega)]⟩
    · unfold aBack; rw [if_neg h4]
    · unfold nBack; rw [if_neg h4]
      have h3 := (hC.R (hA.u 109 19 (s 109 19 - 1))).u 109 18 0
      have e : zuN (va_up (zuN s 109 19 (s 109 19 - 1)) 122 (zCopy (s 122) (288 + 32 * (s 109 19 - 1)) 0)) 109 18 0 = va_up (va_up s 122 (zCopy (s 122) (288 + 32 * (s 109 19 - 1)) 0)) 109 (va_up (va_up (s 109) 19 (s 109 19 - 1)) 18 0) := by
        funext a k
        unfold zuN va_up
        by_cases e1 : a = 109
        · subst e1; simp
        · simp [e1]
      rw [← e]
      exact h3
  · refine P_bipush (pc := 7) (x := (-2)) dX12_back_7 (by decide) ?_
    refine P_iret (pc := 9) dX12_back_9 ?_
    refine ⟨?_, rfl, ?_, zFrm.rf⟩
    · unfold aBack; rw [if_pos h4]
    · unfold nBack; rw [if_pos h4]; exact hA
set_option maxRecDepth 20000 in
theorem c_wipe {l : Launch} {D : va_G} {tw : Nat} {I : AI} {s : Nat → Nat → Nat} (hA : RefA s I) : ZP l D zm_X12_wipe 0 (zent 2 [.ref 109]) [] I (zF tw) (fun v J G => v = some (nI (s 109 1)) ∧ G = zF tw ∧ RefA (zuN s 109 1 0) J ∧ zFrm I J) := by
  show ZP _ _ _ _ [some _, none] _ _ _ _
  refine P_aload_n (pc := 0) dX12_wipe_0 rfl ?_
  refine P_geti (pc := 1) 12 1 (x := nI (s 109 1)) dX12_wipe_1 fl_X12_98 sh_109 fi_12_1 (hA.2 1 rfl) ?_
  refine P_istore_n (pc := 4) dX12_wipe_4 (by decide) rfl ?_
  refine P_aload_n (pc := 5) dX12_wipe_5 rfl ?_
  refine P_iconst (pc := 6) (x := nI 0) dX12_wipe_6 (by decide) ?_
  refine P_puti (pc := 7) 12 1 dX12_wipe_7 fl_X12_98 sh_109 fp_12_1 rfl rfl ?_
  refine P_iload_n (pc := 10) dX12_wipe_10 rfl ?_
  exact P_iret (pc := 11) dX12_wipe_11 (⟨rfl, rfl, hA.u 109 1 0, zFrm.rf.u (by omega)⟩)
set_option maxRecDepth 20000 in
theorem c_forget {l : Launch} {D : va_G} {tw : Nat} {I : AI} {s : Nat → Nat → Nat} (hA : RefA s I) : ZP l D zm_X12_forget 0 (zent 2 [.ref 109]) [] I (zF tw) (fun v J G => v = some (nI (s 109 33)) ∧ G = zF tw ∧ RefA (zuN s 109 33 0) J ∧ zFrm I J) := by
  show ZP _ _ _ _ [some _, none] _ _ _ _
  refine P_aload_n (pc := 0) dX12_forget_0 rfl ?_
  refine P_geti (pc := 1) 12 33 (x := nI (s 109 33)) dX12_forget_1 fl_X12_135 sh_109 fi_12_33 (hA.2 33 rfl) ?_
  refine P_istore_n (pc := 4) dX12_forget_4 (by decide) rfl ?_
  refine P_aload_n (pc := 5) dX12_forget_5 rfl ?_
  refine P_iconst (pc := 6) (x := nI 0) dX12_forget_6 (by decide) ?_
  refine P_puti (pc := 7) 12 33 dX12_forget_7 fl_X12_135 sh_109 fp_12_33 rfl rfl ?_
  refine P_iload_n (pc := 10) dX12_forget_10 rfl ?_
  exact P_iret (pc := 11) dX12_forget_11 (⟨rfl, rfl, hA.u 109 33 0, zFrm.rf.u (by omega)⟩)
theorem letter_n {x : Int32} (h : (32 : Int32) ≤ x ∧ x ≤ 126) : ∃ q : Nat, (32 ≤ q ∧ q ≤ 126) ∧ x = nI q := by
  rw [Int32.le_iff_toInt_le, Int32.le_iff_toInt_le] at h
  have e1 : (32 : Int32).toInt = 32 := rfl
  have e2 : (126 : Int32).toInt = 126 := rfl
  rw [e1, e2] at h
  obtain ⟨j, hj, rfl⟩ := vp_in_of (vp_in_iff.mpr (show 0 ≤ x.toInt ∧ x.toInt < ((127 : Nat) : Int) by omega)) (by decide)
  rw [nI_toInt (by omega)] at h
  exact ⟨j, by omega, rfl⟩
theorem letter_all : (List.range 127).all (fun q => decide (vp_nar .byte (nI q).toInt8.toInt32 = nI (nI q).toNatClampNeg)) = true := by decide +kernel
theorem letter_b (q : Nat) (h : 32 ≤ q ∧ q ≤ 126) : vp_nar .byte (nI q).toInt8.toInt32 = nI (nI q).toNatClampNeg := by
  have := List.all_eq_true.mp letter_all q (List.mem_range.mpr (by omega))
  simpa using this
set_option maxRecDepth 20000 in
theorem c_write {l : Launch} {D : va_G} {tw : Nat} {I : AI} {s : Nat → Nat → Nat} (hA : RefA s I) (ht : s 109 1 ≤ 200) {x : Int32} : ZP l D zm_X12_write 0 (zent 2 [.ref 109, .int x]) [] I (zF tw) (fun v J G => v = some (aWrite s x) ∧ G = zF tw ∧ RefA (nWrite s x) J ∧ zFrm I J) := by
  have hR := hA.1
  show ZP _ _ _ _ [some _, some _] _ _ _ _
  refine P_iload_n (pc := 0) dX12_write_0 rfl ?_
  refine P_bipush (pc := 1) (x := nI 32) dX12_write_1 (by decide) ?_
  refine P_bipush (pc := 3) (x := nI 126) dX12_write_3 (by decide) ?_
  obtain ⟨_, _, _, k1, rfl, rfl, rfl⟩ := c_in (l := l) (D := D) (tw := tw) (I := I) (x := x) (lo := nI 32) (hi := nI 126)
  refine P_callS (pc := 5) (S := []) (As := [_, _, _]) k1 dX12_write_5 ok_X12_in ml_X12_94 is_X12_in ⟨by decide, by decide⟩ (zret_b (decide (nI 32 ≤ x ∧ x ≤ nI 126))) rfl ⟨rfl, by decide⟩ (Nat.le_of_ble_eq_true rfl) ?_
  refine P_if_neB (pc := 8) (tgt := 13) dX12_write_8 (by decide) (fun h8 => ?_) (fun h8 => ?_)
  · refine P_aload_n (pc := 13) dX12_write_13 rfl ?_
    refine P_geti (pc := 14) 12 1 (x := nI (s 109 1)) dX12_write_14 fl_X12_98 sh_109 fi_12_1 (hA.2 1 rfl) ?_
    refine P_sipush (pc := 17) (x := nI 200) dX12_write_17 (by decide) ?_
    refine P_icmp_neN (pc := 20) (tgt := 26) dX12_write_20 (by decide) (by omega) (by omega) (fun h20 => ?_) (fun h20 => ?_)
    · refine P_aload_n (pc := 26) dX12_write_26 rfl ?_
      refine P_getr (pc := 27) 12 0 dX12_write_27 fl_X12_7 sh_109 fr_12_0 F_109_0 ?_
      refine P_aload_n (pc := 30) dX12_write_30 rfl ?_
      refine P_geti (pc := 31) 12 1 (x := nI (s 109 1)) dX12_write_31 fl_X12_98 sh_109 fi_12_1 (hA.2 1 rfl) ?_
      refine P_iload_n (pc := 34) dX12_write_34 rfl ?_
      refine P_i2b (pc := 35) dX12_write_35 ?_
      refine P_bast (pc := 36) ((s 109 1)) dX12_write_36 sh_110 rfl (by omega) (by decide) ?_
      refine P_aload_n (pc := 37) dX12_write_37 rfl ?_
      refine P_dup (pc := 38) dX12_write_38 rfl ?_
      refine P_geti (pc := 39) 12 1 (x := nI (s 109 1)) dX12_write_39 fl_X12_98 sh_109 fi_12_1 (hA.2 1 rfl) ?_
      refine P_iconst (pc := 42) (x := nI 1) dX12_write_42 (by decide) ?_
      refine P_iaddN (pc := 43) dX12_write_43 ?_
      refine P_puti (pc := 44) 12 1 dX12_write_44 fl_X12_98 sh_109 fp_12_1 rfl rfl ?_
      refine P_aload_n (pc := 47) dX12_write_47 rfl ?_
      refine P_geti (pc := 48) 12 1 (x := nI (s 109 1 + 1)) dX12_write_48 fl_X12_98 sh_109 fi_12_1 (rfl) ?_
      refine P_iret (pc := 51) dX12_write_51 ?_
      have hz : ((32 : Int32) ≤ x ∧ x ≤ 126) := of_decide_eq_true h8
      obtain ⟨q, hq, hx⟩ := letter_n hz
      refine ⟨?_, rfl, ?_, (zFrm.rf.u (by omega)).u (by omega)⟩
      · unfold aWrite; rw [if_pos hz, if_neg (by omega)]
      · unfold nWrite; rw [if_pos ⟨hz, by omega⟩]
        have e : vp_nar .byte x.toInt8.toInt32 = nI x.toNatClampNeg := by subst hx; exact letter_b q hq
        rw [e]
        exact (hA.u 110 (s 109 1) x.toNatClampNeg).u 109 1 (s 109 1 + 1)
    · refine P_bipush (pc := 23) (x := (-3)) dX12_write_23 (by decide) ?_
      refine P_iret (pc := 25) dX12_write_25 ?_
      have hz : ((32 : Int32) ≤ x ∧ x ≤ 126) := of_decide_eq_true h8
      refine ⟨?_, rfl, ?_, zFrm.rf⟩
      · unfold aWrite; rw [if_pos hz, if_pos (by omega)]
      · unfold nWrite; rw [if_neg (fun z => z.2 (by omega))]; exact hA
  · refine P_iconst (pc := 11) (x := (-1)) dX12_write_11 (by decide) ?_
    refine P_iret (pc := 12) dX12_write_12 ?_
    have hz : ¬ ((32 : Int32) ≤ x ∧ x ≤ 126) := of_decide_eq_false h8
    refine ⟨?_, rfl, ?_, zFrm.rf⟩
    · unfold aWrite; rw [if_neg hz]
    · unfold nWrite; rw [if_neg (fun z => hz z.1)]; exact hA
set_option maxRecDepth 20000 in
theorem c_seen {l : Launch} {D : va_G} {tw : Nat} {I : AI} {s : Nat → Nat → Nat} (hA : RefA s I) (hT : RefT s) (hP : RefP s) (hs8 : s 109 33 ≤ 8) {x y z : Int32} : ZP l D zm_X12_seen 0 (zent 4 [.ref 109, .int x, .int y, .int z]) [] I (zF tw) (fun v J G => v = some (aSeen s x y z) ∧ G = zF tw ∧ RefA (nSeen s x y z) J ∧ zFrm I J) := by
  have hR := hA.1
  have hnc := hT.2.1
  have hP0 := hP.1
  show ZP _ _ _ _ [some _, some _, some _, some _] _ _ _ _
  refine P_aload_n (pc := 0) dX12_seen_0 rfl ?_
  refine P_iload_n (pc := 1) dX12_seen_1 rfl ?_
  obtain ⟨_, _, _, k1, rfl, rfl, rfl⟩ := c_isWalker (l := l) (D := D) (tw := tw) (x := x) hR (by omega)
  refine P_callV (pc := 2) (S := []) (As := [_]) k1 dX12_seen_2 ok_X12_isWalker ml_X12_152 iv_X12_isWalker ⟨by decide, by decide⟩ (zret_b (zix x (s 116 0))) rfl ⟨rfl, by decide⟩ sh_109 ⟨by decide, rfl⟩ (Nat.le_of_ble_eq_true rfl) ?_
  refine P_if_eqB (pc := 5) (tgt := 26) dX12_seen_5 (by decide) (fun h5 => ?_) (fun h5 => ?_)
  · refine P_iconst (pc := 26) (x := (-1)) dX12_seen_26 (by decide) ?_
    refine P_iret (pc := 27) dX12_seen_27 ?_
    refine ⟨?_, rfl, ?_, zFrm.rf⟩
    · unfold aSeen; rw [if_neg (by intro z; simp_all)]
    · unfold nSeen; rw [if_neg (by intro z; simp_all)]; exact hA
  · obtain ⟨i, hl_i, rfl⟩ := zix_t h5 (by omega)
    refine P_aload_n (pc := 8) dX12_seen_8 rfl ?_
    refine P_iload_n (pc := 9) dX12_seen_9 rfl ?_
    obtain ⟨_, _, _, k2, rfl, rfl, rfl⟩ := c_isCorner (l := l) (D := D) (tw := tw) (x := y) hR (by omega)
    refine P_callV (pc := 10) (S := []) (As := [_]) k2 dX12_seen_10 ok_X12_isCorner ml_X12_145 iv_X12_isCorner ⟨by decide, by decide⟩ (zret_b (zix y (s 111 0))) rfl ⟨rfl, by decide⟩ sh_109 ⟨by decide, rfl⟩ (Nat.le_of_ble_eq_true rfl) ?_
    refine P_if_eqB (pc := 13) (tgt := 26) dX12_seen_13 (by decide) (fun h13 => ?_) (fun h13 => ?_)
    · refine P_iconst (pc := 26) (x := (-1)) dX12_seen_26 (by decide) ?_
      refine P_iret (pc := 27) dX12_seen_27 ?_
      refine ⟨?_, rfl, ?_, zFrm.rf⟩
      · unfold aSeen; rw [if_neg (by intro z; simp_all)]
      · unfold nSeen; rw [if_neg (by intro z; simp_all)]; exact hA
    · obtain ⟨j, hl_j, rfl⟩ := zix_t h13 (by omega)
      refine P_iload_n (pc := 16) dX12_seen_16 rfl ?_
      refine P_iconst (pc := 17) (x := nI 0) dX12_seen_17 (by decide) ?_
      refine P_bipush (pc := 18) (x := nI 30) dX12_seen_18 (by decide) ?_
      obtain ⟨_, _, _, k3, rfl, rfl, rfl⟩ := c_inN (l := l) (D := D) (tw := tw) (x := z) (m := 30) (by omega)
      refine P_callS (pc := 20) (S := []) (As := [_, _, _]) k3 dX12_seen_20 ok_X12_in ml_X12_94 is_X12_in ⟨by decide, by decide⟩ (zret_b (zix z (30 + 1))) rfl ⟨rfl, by decide⟩ (Nat.le_of_ble_eq_true rfl) ?_
      refine P_if_neB (pc := 23) (tgt := 28) dX12_seen_23 (by decide) (fun h23 => ?_) (fun h23 => ?_)
      · obtain ⟨k, hl_k, rfl⟩ := zix_t h23 (by omega)
        refine P_aload_n (pc := 28) dX12_seen_28 rfl ?_
        refine P_geti (pc := 29) 12 33 (x := nI (s 109 33)) dX12_seen_29 fl_X12_135 sh_109 fi_12_33 (hA.2 33 rfl) ?_
        refine P_bipush (pc := 32) (x := nI 8) dX12_seen_32 (by decide) ?_
        refine P_icmp_neN (pc := 34) (tgt := 40) dX12_seen_34 (by decide) (by omega) (by omega) (fun h34 => ?_) (fun h34 => ?_)
        · refine P_aload_n (pc := 40) dX12_seen_40 rfl ?_
          refine P_getr (pc := 41) 12 30 dX12_seen_41 fl_X12_65 sh_109 fr_12_30 F_109_30 ?_
          refine P_aload_n (pc := 44) dX12_seen_44 rfl ?_
          refine P_geti (pc := 45) 12 33 (x := nI (s 109 33)) dX12_seen_45 fl_X12_135 sh_109 fi_12_33 (hA.2 33 rfl) ?_
          refine P_iload_n (pc := 48) dX12_seen_48 rfl ?_
          refine P_iast (pc := 49) ((s 109 33)) dX12_seen_49 sh_128 rfl (by omega) (by decide) ?_
          refine P_aload_n (pc := 50) dX12_seen_50 rfl ?_
          refine P_getr (pc := 51) 12 31 dX12_seen_51 fl_X12_68 sh_109 fr_12_31 F_109_31 ?_
          refine P_aload_n (pc := 54) dX12_seen_54 rfl ?_
          refine P_geti (pc := 55) 12 33 (x := nI (s 109 33)) dX12_seen_55 fl_X12_135 sh_109 fi_12_33 (hA.2 33 rfl) ?_
          refine P_iload_n (pc := 58) dX12_seen_58 rfl ?_
          refine P_iast (pc := 59) ((s 109 33)) dX12_seen_59 sh_129 rfl (by omega) (by decide) ?_
          refine P_aload_n (pc := 60) dX12_seen_60 rfl ?_
          refine P_getr (pc := 61) 12 32 dX12_seen_61 fl_X12_71 sh_109 fr_12_32 F_109_32 ?_
          refine P_aload_n (pc := 64) dX12_seen_64 rfl ?_
          refine P_geti (pc := 65) 12 33 (x := nI (s 109 33)) dX12_seen_65 fl_X12_135 sh_109 fi_12_33 (hA.2 33 rfl) ?_
          refine P_iload_n (pc := 68) dX12_seen_68 rfl ?_
          refine P_iast (pc := 69) ((s 109 33)) dX12_seen_69 sh_130 rfl (by omega) (by decide) ?_
          refine P_aload_n (pc := 70) dX12_seen_70 rfl ?_
          refine P_dup (pc := 71) dX12_seen_71 rfl ?_
          refine P_geti (pc := 72) 12 33 (x := nI (s 109 33)) dX12_seen_72 fl_X12_135 sh_109 fi_12_33 (hA.2 33 rfl) ?_
          refine P_iconst (pc := 75) (x := nI 1) dX12_seen_75 (by decide) ?_
          refine P_iaddN (pc := 76) dX12_seen_76 ?_
          refine P_puti (pc := 77) 12 33 dX12_seen_77 fl_X12_135 sh_109 fp_12_33 rfl rfl ?_
          refine P_aload_n (pc := 80) dX12_seen_80 rfl ?_
          refine P_geti (pc := 81) 12 33 (x := nI (s 109 33 + 1)) dX12_seen_81 fl_X12_135 sh_109 fi_12_33 (rfl) ?_
          refine P_iret (pc := 84) dX12_seen_84 ?_
          refine ⟨?_, rfl, ?_, (((zFrm.rf.u (by omega)).u (by omega)).u (by omega)).u (by omega)⟩
          · unfold aSeen; rw [if_pos ⟨h5, h13, h23⟩, if_neg (by omega)]
          · unfold nSeen; rw [if_pos ⟨⟨h5, h13, h23⟩, by omega⟩, nI_clamp (by omega), nI_clamp (by omega), nI_clamp (by omega)]
            exact (((hA.u 128 (s 109 33) i).u 129 (s 109 33) j).u 130 (s 109 33) k).u 109 33 (s 109 33 + 1)
        · refine P_bipush (pc := 37) (x := (-3)) dX12_seen_37 (by decide) ?_
          refine P_iret (pc := 39) dX12_seen_39 ?_
          refine ⟨?_, rfl, ?_, zFrm.rf⟩
          · unfold aSeen; rw [if_pos ⟨h5, h13, h23⟩, if_pos (by omega)]
          · unfold nSeen; rw [if_neg (fun z => z.2 (by omega))]; exact hA
      · refine P_iconst (pc := 26) (x := (-1)) dX12_seen_26 (by decide) ?_
        refine P_iret (pc := 27) dX12_seen_27 ?_
        refine ⟨?_, rfl, ?_, zFrm.rf⟩
        · unfold aSeen; rw [if_neg (by intro z; simp_all)]
        · unfold nSeen; rw [if_neg (by intro z; simp_all)]; exact hA
set_option maxRecDepth 20000 in
theorem c_count {l : Launch} {D : va_G} {tw : Nat} {I : AI} {s : Nat → Nat → Nat} (hA : RefA s I) {x : Int32} : ZP l D zm_X12_count 0 (zent 2 [.ref 109, .int x]) [] I (zF tw) (fun v J G => v = some (aCount s x) ∧ I = J ∧ G = zF tw) := by
  have hR := hA.1
  show ZP _ _ _ _ [some _, some _] _ _ _ _
  refine P_iload_n (pc := 0) dX12_count_0 rfl ?_
  by_cases hx : zix x 8 = true
  · obtain ⟨j, hj, rfl⟩ := zix_t hx (by omega)
    have hj8 : j = 0 ∨ j = 1 ∨ j = 2 ∨ j = 3 ∨ j = 4 ∨ j = 5 ∨ j = 6 ∨ j = 7 := by omega
    rcases hj8 with rfl | rfl | rfl | rfl | rfl | rfl | rfl | rfl
    · refine P_tableIn (pc := 1) (off := 47) (tgt := 48) dX12_count_1 (by decide) (by decide) (by decide) (by decide) ?_
      refine P_aload_n (pc := 48) dX12_count_48 rfl ?_
      refine P_getr (pc := 49) 12 2 dX12_count_49 fl_X12_13 sh_109 fr_12_2 F_109_2 ?_
      refine P_iconst (pc := 52) (x := nI 0) dX12_count_52 (by decide) ?_
      refine P_iald (pc := 53) (0) (x := nI (s 111 0)) dX12_count_53 sh_111 rfl (by omega) (by decide) (hR 111 _ rfl) ?_
      exact P_iret (pc := 54) dX12_count_54 (⟨by unfold aCount; rw [if_pos hx]; rfl, rfl, rfl⟩)
    · refine P_tableIn (pc := 1) (off := 54) (tgt := 55) dX12_count_1 (by decide) (by decide) (by decide) (by decide) ?_
      refine P_aload_n (pc := 55) dX12_count_55 rfl ?_
      refine P_getr (pc := 56) 12 3 dX12_count_56 fl_X12_17 sh_109 fr_12_3 F_109_3 ?_
      refine P_iconst (pc := 59) (x := nI 0) dX12_count_59 (by decide) ?_
      refine P_iald (pc := 60) (0) (x := nI (s 112 0)) dX12_count_60 sh_112 rfl (by omega) (by decide) (hR 112 _ rfl) ?_
      exact P_iret (pc := 61) dX12_count_61 (⟨by unfold aCount; rw [if_pos hx]; rfl, rfl, rfl⟩)
    · refine P_tableIn (pc := 1) (off := 61) (tgt := 62) dX12_count_1 (by decide) (by decide) (by decide) (by decide) ?_
      refine P_aload_n (pc := 62) dX12_count_62 rfl ?_
      refine P_getr (pc := 63) 12 17 dX12_count_63 fl_X12_47 sh_109 fr_12_17 F_109_17 ?_
      refine P_iconst (pc := 66) (x := nI 0) dX12_count_66 (by decide) ?_
      refine P_iald (pc := 67) (0) (x := nI (s 122 0)) dX12_count_67 sh_122 rfl (by omega) (by decide) (hR 122 _ rfl) ?_
      exact P_iret (pc := 68) dX12_count_68 (⟨by unfold aCount; rw [if_pos hx]; rfl, rfl, rfl⟩)
    · refine P_tableIn (pc := 1) (off := 68) (tgt := 69) dX12_count_1 (by decide) (by decide) (by decide) (by decide) ?_
      refine P_aload_n (pc := 69) dX12_count_69 rfl ?_
      refine P_getr (pc := 70) 12 7 dX12_count_70 fl_X12_29 sh_109 fr_12_7 F_109_7 ?_
      refine P_iconst (pc := 73) (x := nI 0) dX12_count_73 (by decide) ?_
      refine P_iald (pc := 74) (0) (x := nI (s 116 0)) dX12_count_74 sh_116 rfl (by omega) (by decide) (hR 116 _ rfl) ?_
      exact P_iret (pc := 75) dX12_count_75 (⟨by unfold aCount; rw [if_pos hx]; rfl, rfl, rfl⟩)
    · refine P_tableIn (pc := 1) (off := 75) (tgt := 76) dX12_count_1 (by decide) (by decide) (by decide) (by decide) ?_
      refine P_aload_n (pc := 76) dX12_count_76 rfl ?_
      refine P_geti (pc := 77) 12 33 (x := nI (s 109 33)) dX12_count_77 fl_X12_135 sh_109 fi_12_33 (hA.2 33 rfl) ?_
      exact P_iret (pc := 80) dX12_count_80 (⟨by unfold aCount; rw [if_pos hx]; rfl, rfl, rfl⟩)
    · refine P_tableIn (pc := 1) (off := 80) (tgt := 81) dX12_count_1 (by decide) (by decide) (by decide) (by decide) ?_
      refine P_aload_n (pc := 81) dX12_count_81 rfl ?_
      refine P_geti (pc := 82) 12 18 (x := nI (s 109 18)) dX12_count_82 fl_X12_129 sh_109 fi_12_18 (hA.2 18 rfl) ?_
      exact P_iret (pc := 85) dX12_count_85 (⟨by unfold aCount; rw [if_pos hx]; rfl, rfl, rfl⟩)
    · refine P_tableIn (pc := 1) (off := 85) (tgt := 86) dX12_count_1 (by decide) (by decide) (by decide) (by decide) ?_
      refine P_aload_n (pc := 86) dX12_count_86 rfl ?_
      refine P_geti (pc := 87) 12 19 (x := nI (s 109 19)) dX12_count_87 fl_X12_132 sh_109 fi_12_19 (hA.2 19 rfl) ?_
      exact P_iret (pc := 90) dX12_count_90 (⟨by unfold aCount; rw [if_pos hx]; rfl, rfl, rfl⟩)
    · refine P_tableIn (pc := 1) (off := 90) (tgt := 91) dX12_count_1 (by decide) (by decide) (by decide) (by decide) ?_
      refine P_aload_n (pc := 91) dX12_count_91 rfl ?_
      refine P_geti (pc := 92) 12 1 (x := nI (s 109 1)) dX12_count_92 fl_X12_98 sh_109 fi_12_1 (hA.2 1 rfl) ?_
      exact P_iret (pc := 95) dX12_count_95 (⟨by unfold aCount; rw [if_pos hx]; rfl, rfl, rfl⟩)
  · refine P_tableOut (pc := 1) (tgt := 96) dX12_count_1 (by have h0 : ¬ (0 ≤ x.toInt ∧ x.toInt < ((8 : Nat) : Int)) := fun z => hx (decide_eq_true z); omega) (by decide) ?_
    refine P_iconst (pc := 96) (x := (-1)) dX12_count_96 (by decide) ?_
    exact P_iret (pc := 97) dX12_count_97 (⟨by unfold aCount; rw [if_neg hx], rfl, rfl⟩)
