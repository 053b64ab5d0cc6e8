set_option maxRecDepth 20000 in
theorem c_latestFor_27 {l : Launch} {D : va_G} {tw : Nat} {I : AI} {m : Nat} {gc gt gn : Nat → Nat} (hS : CSg m gc gt gn I 27) {h a : Nat} (hh : h < 8) (ha : a < 8) : ZP l D zm_X5_latestFor 0 (zent 4 [.ref 27, .int (nI h), .int (nI a)]) [] I (zF tw) (fun v J G => v = some (zo (-1) (zSign gc gt gn h a m)) ∧ I = J ∧ G = zF tw) := by
  have hm9 := hS.2.1
  have loop : ∀ (n : Nat), n ≤ m → zSign gc gt gn h a m = zSign gc gt gn h a n → ZP l D zm_X5_latestFor 7 [some (.ref 27), some (.int (nI h)), some (.int (nI a)), some (.int (zPd n))] [] I (zF tw) (fun v J G => v = some (zo (-1) (zSign gc gt gn h a m)) ∧ I = J ∧ G = zF tw) := by
    intro n
    induction n with
    | zero =>
      intro hn hz
      refine P_iload_n (pc := 7) dX5_latestFor_7 rfl ?_
      refine P_if_ltT (pc := 8) (tgt := 44) dX5_latestFor_8 (by decide) (by decide) ?_
      refine P_iconst (pc := 44) (x := (-1)) dX5_latestFor_44 (by decide) ?_
      exact P_iret (pc := 45) dX5_latestFor_45 (⟨by rw [hz]; rfl, rfl, rfl⟩)
    | succ n ihn =>
      intro hn hz
      refine P_iload_n (pc := 7) dX5_latestFor_7 rfl ?_
      refine P_if_ltF (pc := 8) (tgt := 44) dX5_latestFor_8 (by decide) (nI_pos (by omega)) ?_
      refine P_aload_n (pc := 11) dX5_latestFor_11 rfl ?_
      refine P_getr (pc := 12) 5 0 dX5_latestFor_12 fl_X5_11 sh_27 fr_5_0 F_27_0 ?_
      refine P_iload_n (pc := 15) dX5_latestFor_15 rfl ?_
      have hb := hS.2.2 n (by omega)
      refine P_iald (pc := 16) (n) (x := nI (gc n)) dX5_latestFor_16 sh_28 rfl (by omega) (by decide) ((hS.2.2 _ (by omega)).1.1) ?_
      refine P_iload_n (pc := 17) dX5_latestFor_17 rfl ?_
      refine P_icmp_neN (pc := 18) (tgt := 38) dX5_latestFor_18 (by decide) (by omega) (by omega) (fun h18 => ?_) (fun h18 => ?_)
      · refine P_iinc (pc := 38) (y := zPd n) dX5_latestFor_38 rfl (zPd_s n) (by decide) rfl ?_
        refine P_goto (pc := 41) (tgt := 7) dX5_latestFor_41 (by decide) ?_
        exact ihn (by omega) (by rw [hz, zSign_s, if_neg (by omega)])
      · refine P_aload_n (pc := 21) dX5_latestFor_21 rfl ?_
        refine P_getr (pc := 22) 5 1 dX5_latestFor_22 fl_X5_15 sh_27 fr_5_1 F_27_1 ?_
        refine P_iload_n (pc := 25) dX5_latestFor_25 rfl ?_
        refine P_iald (pc := 26) (n) (x := nI (gt n)) dX5_latestFor_26 sh_29 rfl (by omega) (by decide) ((hS.2.2 _ (by omega)).1.2.1) ?_
        refine P_iload_n (pc := 27) dX5_latestFor_27 rfl ?_
        refine P_icmp_neN (pc := 28) (tgt := 38) dX5_latestFor_28 (by decide) (by omega) (by omega) (fun h28 => ?_) (fun h28 => ?_)
        · refine P_iinc (pc := 38) (y := zPd n) dX5_latestFor_38 rfl (zPd_s n) (by decide) rfl ?_
          refine P_goto (pc := 41) (tgt := 7) dX5_latestFor_41 (by decide) ?_
          exact ihn (by omega) (by rw [hz, zSign_s, if_neg (by omega)])
        · refine P_aload_n (pc := 31) dX5_latestFor_31 rfl ?_
          refine P_getr (pc := 32) 5 2 dX5_latestFor_32 fl_X5_18 sh_27 fr_5_2 F_27_2 ?_
          refine P_iload_n (pc := 35) dX5_latestFor_35 rfl ?_
          refine P_iald (pc := 36) (n) (x := nI (gn n)) dX5_latestFor_36 sh_30 rfl (by omega) (by decide) ((hS.2.2 _ (by omega)).1.2.2) ?_
          exact P_iret (pc := 37) dX5_latestFor_37 (⟨by rw [hz, zSign_s, if_pos (by omega)]; rfl, rfl, rfl⟩)
  show ZP _ _ _ _ [some _, some _, some _, none] _ _ _ _
  refine P_aload_n (pc := 0) dX5_latestFor_0 rfl ?_
  refine P_geti (pc := 1) 5 3 (x := nI m) dX5_latestFor_1 fl_X5_21 sh_27 fi_5_3 (hS.1) ?_
  refine P_iconst (pc := 4) (x := nI 1) dX5_latestFor_4 (by decide) ?_
  refine P_isub (pc := 5) dX5_latestFor_5 ?_
  refine P_istore_n (pc := 6) dX5_latestFor_6 (by decide) rfl ?_
  have h9 := loop m (by omega) rfl
  rw [← zPd_m m] at h9
  exact h9
set_option maxRecDepth 20000 in
theorem c_latestFor_58 {l : Launch} {D : va_G} {tw : Nat} {I : AI} {m : Nat} {gc gt gn : Nat → Nat} (hS : CSg m gc gt gn I 58) {h a : Nat} (hh : h < 8) (ha : a < 8) : ZP l D zm_X5_latestFor 0 (zent 4 [.ref 58, .int (nI h), .int (nI a)]) [] I (zF tw) (fun v J G => v = some (zo (-1) (zSign gc gt gn h a m)) ∧ I = J ∧ G = zF tw) := by
  have hm9 := hS.2.1
  have loop : ∀ (n : Nat), n ≤ m → zSign gc gt gn h a m = zSign gc gt gn h a n → ZP l D zm_X5_latestFor 7 [some (.ref 58), some (.int (nI h)), some (.int (nI a)), some (.int (zPd n))] [] I (zF tw) (fun v J G => v = some (zo (-1) (zSign gc gt gn h a m)) ∧ I = J ∧ G = zF tw) := by
    intro n
    induction n with
    | zero =>
      intro hn hz
      refine P_iload_n (pc := 7) dX5_latestFor_7 rfl ?_
      refine P_if_ltT (pc := 8) (tgt := 44) dX5_latestFor_8 (by decide) (by decide) ?_
      refine P_iconst (pc := 44) (x := (-1)) dX5_latestFor_44 (by decide) ?_
      exact P_iret (pc := 45) dX5_latestFor_45 (⟨by rw [hz]; rfl, rfl, rfl⟩)
    | succ n ihn =>
      intro hn hz
      refine P_iload_n (pc := 7) dX5_latestFor_7 rfl ?_
      refine P_if_ltF (pc := 8) (tgt := 44) dX5_latestFor_8 (by decide) (nI_pos (by omega)) ?_
      refine P_aload_n (pc := 11) dX5_latestFor_11 rfl ?_
      refine P_getr (pc := 12) 5 0 dX5_latestFor_12 fl_X5_11 sh_58 fr_5_0 F_58_0 ?_
      refine P_iload_n (pc := 15) dX5_latestFor_15 rfl ?_
      have hb := hS.2.2 n (by omega)
      refine P_iald (pc := 16) (n) (x := nI (gc n)) dX5_latestFor_16 sh_59 rfl (by omega) (by decide) ((hS.2.2 _ (by omega)).1.1) ?_
      refine P_iload_n (pc := 17) dX5_latestFor_17 rfl ?_
      refine P_icmp_neN (pc := 18) (tgt := 38) dX5_latestFor_18 (by decide) (by omega) (by omega) (fun h18 => ?_) (fun h18 => ?_)
      · refine P_iinc (pc := 38) (y := zPd n) dX5_latestFor_38 rfl (zPd_s n) (by decide) rfl ?_
        refine P_goto (pc := 41) (tgt := 7) dX5_latestFor_41 (by decide) ?_
        exact ihn (by omega) (by rw [hz, zSign_s, if_neg (by omega)])
      · refine P_aload_n (pc := 21) dX5_latestFor_21 rfl ?_
        refine P_getr (pc := 22) 5 1 dX5_latestFor_22 fl_X5_15 sh_58 fr_5_1 F_58_1 ?_
        refine P_iload_n (pc := 25) dX5_latestFor_25 rfl ?_
        refine P_iald (pc := 26) (n) (x := nI (gt n)) dX5_latestFor_26 sh_60 rfl (by omega) (by decide) ((hS.2.2 _ (by omega)).1.2.1) ?_
        refine P_iload_n (pc := 27) dX5_latestFor_27 rfl ?_
        refine P_icmp_neN (pc := 28) (tgt := 38) dX5_latestFor_28 (by decide) (by omega) (by omega) (fun h28 => ?_) (fun h28 => ?_)
        · refine P_iinc (pc := 38) (y := zPd n) dX5_latestFor_38 rfl (zPd_s n) (by decide) rfl ?_
          refine P_goto (pc := 41) (tgt := 7) dX5_latestFor_41 (by decide) ?_
          exact ihn (by omega) (by rw [hz, zSign_s, if_neg (by omega)])
        · refine P_aload_n (pc := 31) dX5_latestFor_31 rfl ?_
          refine P_getr (pc := 32) 5 2 dX5_latestFor_32 fl_X5_18 sh_58 fr_5_2 F_58_2 ?_
          refine P_iload_n (pc := 35) dX5_latestFor_35 rfl ?_
          refine P_iald (pc := 36) (n) (x := nI (gn n)) dX5_latestFor_36 sh_61 rfl (by omega) (by decide) ((hS.2.2 _ (by omega)).1.2.2) ?_
          exact P_iret (pc := 37) dX5_latestFor_37 (⟨by rw [hz, zSign_s, if_pos (by omega)]; rfl, rfl, rfl⟩)
  show ZP _ _ _ _ [some _, some _, some _, none] _ _ _ _
  refine P_aload_n (pc := 0) dX5_latestFor_0 rfl ?_
  refine P_geti (pc := 1) 5 3 (x := nI m) dX5_latestFor_1 fl_X5_21 sh_58 fi_5_3 (hS.1) ?_
  refine P_iconst (pc := 4) (x := nI 1) dX5_latestFor_4 (by decide) ?_
  refine P_isub (pc := 5) dX5_latestFor_5 ?_
  refine P_istore_n (pc := 6) dX5_latestFor_6 (by decide) rfl ?_
  have h9 := loop m (by omega) rfl
  rw [← zPd_m m] at h9
  exact h9
set_option maxRecDepth 20000 in
theorem c_latestFor_70 {l : Launch} {D : va_G} {tw : Nat} {I : AI} {m : Nat} {gc gt gn : Nat → Nat} (hS : CSg m gc gt gn I 70) {h a : Nat} (hh : h < 8) (ha : a < 8) : ZP l D zm_X5_latestFor 0 (zent 4 [.ref 70, .int (nI h), .int (nI a)]) [] I (zF tw) (fun v J G => v = some (zo (-1) (zSign gc gt gn h a m)) ∧ I = J ∧ G = zF tw) := by
  have hm9 := hS.2.1
  have loop : ∀ (n : Nat), n ≤ m → zSign gc gt gn h a m = zSign gc gt gn h a n → ZP l D zm_X5_latestFor 7 [some (.ref 70), some (.int (nI h)), some (.int (nI a)), some (.int (zPd n))] [] I (zF tw) (fun v J G => v = some (zo (-1) (zSign gc gt gn h a m)) ∧ I = J ∧ G = zF tw) := by
    intro n
    induction n with
    | zero =>
      intro hn hz
      refine P_iload_n (pc := 7) dX5_latestFor_7 rfl ?_
      refine P_if_ltT (pc := 8) (tgt := 44) dX5_latestFor_8 (by decide) (by decide) ?_
      refine P_iconst (pc := 44) (x := (-1)) dX5_latestFor_44 (by decide) ?_
      exact P_iret (pc := 45) dX5_latestFor_45 (⟨by rw [hz]; rfl, rfl, rfl⟩)
    | succ n ihn =>
      intro hn hz
      refine P_iload_n (pc := 7) dX5_latestFor_7 rfl ?_
      refine P_if_ltF (pc := 8) (tgt := 44) dX5_latestFor_8 (by decide) (nI_pos (by omega)) ?_
      refine P_aload_n (pc := 11) dX5_latestFor_11 rfl ?_
      refine P_getr (pc := 12) 5 0 dX5_latestFor_12 fl_X5_11 sh_70 fr_5_0 F_70_0 ?_
      refine P_iload_n (pc := 15) dX5_latestFor_15 rfl ?_
      have hb := hS.2.2 n (by omega)
      refine P_iald (pc := 16) (n) (x := nI (gc n)) dX5_latestFor_16 sh_71 rfl (by omega) (by decide) ((hS.2.2 _ (by omega)).1.1) ?_
      refine P_iload_n (pc := 17) dX5_latestFor_17 rfl ?_
      refine P_icmp_neN (pc := 18) (tgt := 38) dX5_latestFor_18 (by decide) (by omega) (by omega) (fun h18 => ?_) (fun h18 => ?_)
      · refine P_iinc (pc := 38) (y := zPd n) dX5_latestFor_38 rfl (zPd_s n) (by decide) rfl ?_
        refine P_goto (pc := 41) (tgt := 7) dX5_latestFor_41 (by decide) ?_
        exact ihn (by omega) (by rw [hz, zSign_s, if_neg (by omega)])
      · refine P_aload_n (pc := 21) dX5_latestFor_21 rfl ?_
        refine P_getr (pc := 22) 5 1 dX5_latestFor_22 fl_X5_15 sh_70 fr_5_1 F_70_1 ?_
        refine P_iload_n (pc := 25) dX5_latestFor_25 rfl ?_
        refine P_iald (pc := 26) (n) (x := nI (gt n)) dX5_latestFor_26 sh_72 rfl (by omega) (by decide) ((hS.2.2 _ (by omega)).1.2.1) ?_
        refine P_iload_n (pc := 27) dX5_latestFor_27 rfl ?_
        refine P_icmp_neN (pc := 28) (tgt := 38) dX5_latestFor_28 (by decide) (by omega) (by omega) (fun h28 => ?_) (fun h28 => ?_)
        · refine P_iinc (pc := 38) (y := zPd n) dX5_latestFor_38 rfl (zPd_s n) (by decide) rfl ?_
          refine P_goto (pc := 41) (tgt := 7) dX5_latestFor_41 (by decide) ?_
          exact ihn (by omega) (by rw [hz, zSign_s, if_neg (by omega)])
        · refine P_aload_n (pc := 31) dX5_latestFor_31 rfl ?_
          refine P_getr (pc := 32) 5 2 dX5_latestFor_32 fl_X5_18 sh_70 fr_5_2 F_70_2 ?_
          refine P_iload_n (pc := 35) dX5_latestFor_35 rfl ?_
          refine P_iald (pc := 36) (n) (x := nI (gn n)) dX5_latestFor_36 sh_73 rfl (by omega) (by decide) ((hS.2.2 _ (by omega)).1.2.2) ?_
          exact P_iret (pc := 37) dX5_latestFor_37 (⟨by rw [hz, zSign_s, if_pos (by omega)]; rfl, rfl, rfl⟩)
  show ZP _ _ _ _ [some _, some _, some _, none] _ _ _ _
  refine P_aload_n (pc := 0) dX5_latestFor_0 rfl ?_
  refine P_geti (pc := 1) 5 3 (x := nI m) dX5_latestFor_1 fl_X5_21 sh_70 fi_5_3 (hS.1) ?_
  refine P_iconst (pc := 4) (x := nI 1) dX5_latestFor_4 (by decide) ?_
  refine P_isub (pc := 5) dX5_latestFor_5 ?_
  refine P_istore_n (pc := 6) dX5_latestFor_6 (by decide) rfl ?_
  have h9 := loop m (by omega) rfl
  rw [← zPd_m m] at h9
  exact h9
set_option maxRecDepth 20000 in
theorem c_chooseBySign_5 {l : Launch} {D : va_G} {tw : Nat} {I : AI} {nc : Nat} {nr fr : Nat → Nat} (hC : CSt nc nr fr I 6 10 19)  {h : Nat} {sg cm : Option Nat} (hh : h < 8) (hsg : ∀ p, sg = some p → p < 8) (hcm : ∀ m, cm = some m → m < 8) : ZP l D zm_X9_chooseBySign 0 (zent 5 [.ref 6, .int (zo (-1) sg), .int (nI h), .int (zo (-1) cm)]) [] I (zF tw) (fun v J G => v = some (zo (-1) (zStr nc nr sg h cm)) ∧ I = J ∧ G = zF tw) := by
  cases sg with
  | none =>
    show ZP _ _ _ _ [some _, some (.int (-1)), some _, some _, none] _ _ _ _
    refine P_iload_n (pc := 0) dX9_chooseBySign_0 rfl ?_
    refine P_iconst (pc := 1) (x := (-1)) dX9_chooseBySign_1 (by decide) ?_
    refine P_icmp_eqT (pc := 2) (tgt := 20) dX9_chooseBySign_2 (by decide) (by decide) ?_
    refine P_iconst (pc := 20) (x := nI 0) dX9_chooseBySign_20 (by decide) ?_
    refine P_istore (pc := 21) dX9_chooseBySign_21 (by decide) rfl ?_
    refine P_iload (pc := 23) dX9_chooseBySign_23 rfl ?_
    refine P_if_eqT (pc := 25) (tgt := 32) dX9_chooseBySign_25 (by decide) (by decide) ?_
    refine P_aload_n (pc := 32) dX9_chooseBySign_32 rfl ?_
    refine P_iload_n (pc := 33) dX9_chooseBySign_33 rfl ?_
    refine P_iload_n (pc := 34) dX9_chooseBySign_34 rfl ?_
    obtain ⟨_, _, _, k1, rfl, rfl, rfl⟩ := c_firstBut_5 (l := l) (D := D) (tw := tw) hC (h := h) (cm := cm) hh hcm
    refine P_callV (pc := 35) (S := []) (As := [_, _]) k1 dX9_chooseBySign_35 ok_X6_firstBut ml_X9_81 iv_X6_firstBut ⟨by decide, by decide⟩ (zret_i _) rfl ⟨rfl, by decide⟩ sh_6 ⟨by decide, rfl⟩ (Nat.le_of_ble_eq_true rfl) ?_
    exact P_iret (pc := 38) dX9_chooseBySign_38 (⟨rfl, rfl, rfl⟩)
  | some p =>
    have hp := hsg p rfl
    show ZP _ _ _ _ [some _, some (.int (nI p)), some _, some _, none] _ _ _ _
    refine P_iload_n (pc := 0) dX9_chooseBySign_0 rfl ?_
    refine P_iconst (pc := 1) (x := (-1)) dX9_chooseBySign_1 (by decide) ?_
    refine P_icmp_eqF (pc := 2) (tgt := 20) dX9_chooseBySign_2 (by decide) (zne1 (by omega)) ?_
    refine P_aload_n (pc := 5) dX9_chooseBySign_5 rfl ?_
    refine P_getr (pc := 6) 6 4 dX9_chooseBySign_6 fl_X9_45 sh_6 fr_6_4 F_6_4 ?_
    refine P_iload_n (pc := 9) dX9_chooseBySign_9 rfl ?_
    refine P_aald (pc := 10) (h) dX9_chooseBySign_10 sh_9 (by decide) rfl (by omega) (by decide) (Fr_9 _ (by omega)) ?_
    refine P_iload_n (pc := 11) dX9_chooseBySign_11 rfl ?_
    have b1 := hC.2.2.2.2.1 (8 * h + p) (by omega)
    have b2 := zln_pos b1.1
    refine P_iald (pc := 12) (p) (x := nI (zln (nr (8 * h + p)))) dX9_chooseBySign_12 (shr_10 _ (by omega)) rfl (by omega) (by decide) (hC.2.2.1 _ _ (by omega) (by omega)) ?_
    refine P_if_le (pc := 13) (tgt := 20) dX9_chooseBySign_13 (by decide) (fun h13 => ?_) (fun h13 => ?_)
    · refine P_iconst (pc := 20) (x := nI 0) dX9_chooseBySign_20 (by decide) ?_
      refine P_istore (pc := 21) dX9_chooseBySign_21 (by decide) rfl ?_
      refine P_iload (pc := 23) dX9_chooseBySign_23 rfl ?_
      refine P_if_eqT (pc := 25) (tgt := 32) dX9_chooseBySign_25 (by decide) (by decide) ?_
      refine P_aload_n (pc := 32) dX9_chooseBySign_32 rfl ?_
      refine P_iload_n (pc := 33) dX9_chooseBySign_33 rfl ?_
      refine P_iload_n (pc := 34) dX9_chooseBySign_34 rfl ?_
      obtain ⟨_, _, _, k1, rfl, rfl, rfl⟩ := c_firstBut_5 (l := l) (D := D) (tw := tw) hC (h := h) (cm := cm) hh hcm
      refine P_callV (pc := 35) (S := []) (As := [_, _]) k1 dX9_chooseBySign_35 ok_X6_firstBut ml_X9_81 iv_X6_firstBut ⟨by decide, by decide⟩ (zret_i _) rfl ⟨rfl, by decide⟩ sh_6 ⟨by decide, rfl⟩ (Nat.le_of_ble_eq_true rfl) ?_
      exact P_iret (pc := 38) dX9_chooseBySign_38 (⟨by rw [zStr, if_neg (fun z => by have h9 := (nI_le0 (by omega)).mp h13; have := b2.1.mpr z; omega)], rfl, rfl⟩)
    · refine P_iconst (pc := 16) (x := nI 1) dX9_chooseBySign_16 (by decide) ?_
      refine P_goto (pc := 17) (tgt := 21) dX9_chooseBySign_17 (by decide) ?_
      refine P_istore (pc := 21) dX9_chooseBySign_21 (by decide) rfl ?_
      refine P_iload (pc := 23) dX9_chooseBySign_23 rfl ?_
      refine P_if_eqF (pc := 25) (tgt := 32) dX9_chooseBySign_25 (by decide) (by decide) ?_
      refine P_iload_n (pc := 28) dX9_chooseBySign_28 rfl ?_
      refine P_goto (pc := 29) (tgt := 38) dX9_chooseBySign_29 (by decide) ?_
      exact P_iret (pc := 38) dX9_chooseBySign_38 (⟨by rw [zStr, if_pos (b2.1.mp (by have h9 : ¬ zln (nr (8 * h + p)) = 0 := fun z => h13 ((nI_le0 (by omega)).mpr z); omega))]; rfl, rfl, rfl⟩)
set_option maxRecDepth 20000 in
theorem c_chooseBySign_36 {l : Launch} {D : va_G} {tw : Nat} {I : AI} {nc : Nat} {nr fr : Nat → Nat} (hC : CSt nc nr fr I 37 41 50)  {h : Nat} {sg cm : Option Nat} (hh : h < 8) (hsg : ∀ p, sg = some p → p < 8) (hcm : ∀ m, cm = some m → m < 8) : ZP l D zm_X9_chooseBySign 0 (zent 5 [.ref 37, .int (zo (-1) sg), .int (nI h), .int (zo (-1) cm)]) [] I (zF tw) (fun v J G => v = some (zo (-1) (zStr nc nr sg h cm)) ∧ I = J ∧ G = zF tw) := by
  cases sg with
  | none =>
    show ZP _ _ _ _ [some _, some (.int (-1)), some _, some _, none] _ _ _ _
    refine P_iload_n (pc := 0) dX9_chooseBySign_0 rfl ?_
    refine P_iconst (pc := 1) (x := (-1)) dX9_chooseBySign_1 (by decide) ?_
    refine P_icmp_eqT (pc := 2) (tgt := 20) dX9_chooseBySign_2 (by decide) (by decide) ?_
    refine P_iconst (pc := 20) (x := nI 0) dX9_chooseBySign_20 (by decide) ?_
    refine P_istore (pc := 21) dX9_chooseBySign_21 (by decide) rfl ?_
    refine P_iload (pc := 23) dX9_chooseBySign_23 rfl ?_
    refine P_if_eqT (pc := 25) (tgt := 32) dX9_chooseBySign_25 (by decide) (by decide) ?_
    refine P_aload_n (pc := 32) dX9_chooseBySign_32 rfl ?_
    refine P_iload_n (pc := 33) dX9_chooseBySign_33 rfl ?_
    refine P_iload_n (pc := 34) dX9_chooseBySign_34 rfl ?_
    obtain ⟨_, _, _, k1, rfl, rfl, rfl⟩ := c_firstBut_36 (l := l) (D := D) (tw := tw) hC (h := h) (cm := cm) hh hcm
    refine P_callV (pc := 35) (S := []) (As := [_, _]) k1 dX9_chooseBySign_35 ok_X6_firstBut ml_X9_81 iv_X6_firstBut ⟨by decide, by decide⟩ (zret_i _) rfl ⟨rfl, by decide⟩ sh_37 ⟨by decide, rfl⟩ (Nat.le_of_ble_eq_true rfl) ?_
    exact P_iret (pc := 38) dX9_chooseBySign_38 (⟨rfl, rfl, rfl⟩)
  | some p =>
    have hp := hsg p rfl
    show ZP _ _ _ _ [some _, some (.int (nI p)), some _, some _, none] _ _ _ _
    refine P_iload_n (pc := 0) dX9_chooseBySign_0 rfl ?_
    refine P_iconst (pc := 1) (x := (-1)) dX9_chooseBySign_1 (by decide) ?_
    refine P_icmp_eqF (pc := 2) (tgt := 20) dX9_chooseBySign_2 (by decide) (zne1 (by omega)) ?_
    refine P_aload_n (pc := 5) dX9_chooseBySign_5 rfl ?_
    refine P_getr (pc := 6) 6 4 dX9_chooseBySign_6 fl_X9_45 sh_37 fr_6_4 F_37_4 ?_
    refine P_iload_n (pc := 9) dX9_chooseBySign_9 rfl ?_
    refine P_aald (pc := 10) (h) dX9_chooseBySign_10 sh_40 (by decide) rfl (by omega) (by decide) (Fr_40 _ (by omega)) ?_
    refine P_iload_n (pc := 11) dX9_chooseBySign_11 rfl ?_
    have b1 := hC.2.2.2.2.1 (8 * h + p) (by omega)
    have b2 := zln_pos b1.1
    refine P_iald (pc := 12) (p) (x := nI (zln (nr (8 * h + p)))) dX9_chooseBySign_12 (shr_41 _ (by omega)) rfl (by omega) (by decide) (hC.2.2.1 _ _ (by omega) (by omega)) ?_
    refine P_if_le (pc := 13) (tgt := 20) dX9_chooseBySign_13 (by decide) (fun h13 => ?_) (fun h13 => ?_)
    · refine P_iconst (pc := 20) (x := nI 0) dX9_chooseBySign_20 (by decide) ?_
      refine P_istore (pc := 21) dX9_chooseBySign_21 (by decide) rfl ?_
      refine P_iload (pc := 23) dX9_chooseBySign_23 rfl ?_
      refine P_if_eqT (pc := 25) (tgt := 32) dX9_chooseBySign_25 (by decide) (by decide) ?_
      refine P_aload_n (pc := 32) dX9_chooseBySign_32 rfl ?_
      refine P_iload_n (pc := 33) dX9_chooseBySign_33 rfl ?_
      refine P_iload_n (pc := 34) dX9_chooseBySign_34 rfl ?_
      obtain ⟨_, _, _, k1, rfl, rfl, rfl⟩ := c_firstBut_36 (l := l) (D := D) (tw := tw) hC (h := h) (cm := cm) hh hcm
      refine P_callV (pc := 35) (S := []) (As := [_, _]) k1 dX9_chooseBySign_35 ok_X6_firstBut ml_X9_81 iv_X6_firstBut ⟨by decide, by decide⟩ (zret_i _) rfl ⟨rfl, by decide⟩ sh_37 ⟨by decide, rfl⟩ (Nat.le_of_ble_eq_true rfl) ?_
      exact P_iret (pc := 38) dX9_chooseBySign_38 (⟨by rw [zStr, if_neg (fun z => by have h9 := (nI_le0 (by omega)).mp h13; have := b2.1.mpr z; omega)], rfl, rfl⟩)
    · refine P_iconst (pc := 16) (x := nI 1) dX9_chooseBySign_16 (by decide) ?_
      refine P_goto (pc := 17) (tgt := 21) dX9_chooseBySign_17 (by decide) ?_
      refine P_istore (pc := 21) dX9_chooseBySign_21 (by decide) rfl ?_
      refine P_iload (pc := 23) dX9_chooseBySign_23 rfl ?_
      refine P_if_eqF (pc := 25) (tgt := 32) dX9_chooseBySign_25 (by decide) (by decide) ?_
      refine P_iload_n (pc := 28) dX9_chooseBySign_28 rfl ?_
      refine P_goto (pc := 29) (tgt := 38) dX9_chooseBySign_29 (by decide) ?_
      exact P_iret (pc := 38) dX9_chooseBySign_38 (⟨by rw [zStr, if_pos (b2.1.mp (by have h9 : ¬ zln (nr (8 * h + p)) = 0 := fun z => h13 ((nI_le0 (by omega)).mpr z); omega))]; rfl, rfl, rfl⟩)
set_option maxRecDepth 20000 in
theorem c_choose_5_27 {l : Launch} {D : va_G} {tw : Nat} {I : AI} {nc : Nat} {nr fr : Nat → Nat} (hC : CSt nc nr fr I 6 10 19) {m : Nat} {gc gt gn : Nat → Nat} (hS : CSg m gc gt gn I 27) {kd h a : Nat} {cm : Option Nat} (hn1 : 1 ≤ nc) (hkd : kd < 4) (hh : h < 8) (ha : a < 8) (hcm : ∀ m, cm = some m → m < 8) : ZP l D zm_X9_choose 0 (zent 6 [.ref 6, .ref 27, .int (nI kd), .int (nI h), .int (zo (-1) cm), .int (nI a)]) [] I (zF tw) (fun v J G => v = some (zo (-1) (zNx nc nr fr (fun c => zSign gc gt gn c a m) kd a h cm)) ∧ I = J ∧ G = zF tw) := by
  show ZP _ _ _ _ [some _, some _, some _, some _, some _, some _] _ _ _ _
  refine P_iload_n (pc := 0) dX9_choose_0 rfl ?_
  have hk4 : kd = 0 ∨ kd = 1 ∨ kd = 2 ∨ kd = 3 := by omega
  rcases hk4 with rfl | rfl | rfl | rfl
  · refine P_tableIn (pc := 1) (tgt := 32) dX9_choose_1 (by decide) (by decide) (by rfl) (by decide) ?_
    refine P_aload_n (pc := 32) dX9_choose_32 rfl ?_
    refine P_iload_n (pc := 33) dX9_choose_33 rfl ?_
    refine P_iload (pc := 34) dX9_choose_34 rfl ?_
    obtain ⟨_, _, _, k1, rfl, rfl, rfl⟩ := c_towards_5 (l := l) (D := D) (tw := tw) hC (h := h) (a := a) hh ha
    refine P_callV (pc := 36) (S := []) (As := [_, _]) k1 dX9_choose_36 ok_X6_towards ml_X9_65 iv_X6_towards ⟨by decide, by decide⟩ (zret_i _) rfl ⟨rfl, by decide⟩ sh_6 ⟨by decide, rfl⟩ (Nat.le_of_ble_eq_true rfl) ?_
    exact P_iret (pc := 39) dX9_choose_39 (⟨rfl, rfl, rfl⟩)
  · refine P_tableIn (pc := 1) (tgt := 40) dX9_choose_1 (by decide) (by decide) (by rfl) (by decide) ?_
    refine P_aload_n (pc := 40) dX9_choose_40 rfl ?_
    refine P_aload_n (pc := 41) dX9_choose_41 rfl ?_
    refine P_iload_n (pc := 42) dX9_choose_42 rfl ?_
    refine P_iload (pc := 43) dX9_choose_43 rfl ?_
    obtain ⟨_, _, _, k1, rfl, rfl, rfl⟩ := c_latestFor_27 (l := l) (D := D) (tw := tw) hS (h := h) (a := a) hh ha
    refine P_callV (pc := 45) (S := [_]) (As := [_, _]) k1 dX9_choose_45 ok_X5_latestFor ml_X9_69 iv_X5_latestFor ⟨by decide, by decide⟩ (zret_i _) rfl ⟨rfl, by decide⟩ sh_27 ⟨by decide, rfl⟩ (Nat.le_of_ble_eq_true rfl) ?_
    refine P_iload_n (pc := 48) dX9_choose_48 rfl ?_
    refine P_iload (pc := 49) dX9_choose_49 rfl ?_
    obtain ⟨_, _, _, k2, rfl, rfl, rfl⟩ := c_chooseBySign_5 (l := l) (D := D) (tw := tw) hC (h := h) (cm := cm) (sg := zSign gc gt gn h a m) hh (fun p e => zSign_lt (b := 8) (fun j hj => (hS.2.2 j hj).2.2.2) e) hcm
    refine P_callS (pc := 51) (S := []) (As := [_, _, _, _]) k2 dX9_choose_51 ok_X9_chooseBySign ml_X9_74 is_X9_chooseBySign ⟨by decide, by decide⟩ (zret_i _) rfl ⟨rfl, by decide⟩ (Nat.le_of_ble_eq_true rfl) ?_
    exact P_iret (pc := 54) dX9_choose_54 (⟨rfl, rfl, rfl⟩)
  · refine P_tableIn (pc := 1) (tgt := 32) dX9_choose_1 (by decide) (by decide) (by rfl) (by decide) ?_
    refine P_aload_n (pc := 32) dX9_choose_32 rfl ?_
    refine P_iload_n (pc := 33) dX9_choose_33 rfl ?_
    refine P_iload (pc := 34) dX9_choose_34 rfl ?_
    obtain ⟨_, _, _, k1, rfl, rfl, rfl⟩ := c_towards_5 (l := l) (D := D) (tw := tw) hC (h := h) (a := a) hh ha
    refine P_callV (pc := 36) (S := []) (As := [_, _]) k1 dX9_choose_36 ok_X6_towards ml_X9_65 iv_X6_towards ⟨by decide, by decide⟩ (zret_i _) rfl ⟨rfl, by decide⟩ sh_6 ⟨by decide, rfl⟩ (Nat.le_of_ble_eq_true rfl) ?_
    exact P_iret (pc := 39) dX9_choose_39 (⟨rfl, rfl, rfl⟩)
  · refine P_tableIn (pc := 1) (tgt := 55) dX9_choose_1 (by decide) (by decide) (by rfl) (by decide) ?_
    refine P_aload_n (pc := 55) dX9_choose_55 rfl ?_
    refine P_iload_n (pc := 56) dX9_choose_56 rfl ?_
    refine P_iload (pc := 57) dX9_choose_57 rfl ?_
    obtain ⟨_, _, _, k1, rfl, rfl, rfl⟩ := c_lastBut_5 (l := l) (D := D) (tw := tw) hC (h := h) (cm := cm) hh hn1 hcm
    refine P_callV (pc := 59) (S := []) (As := [_, _]) k1 dX9_choose_59 ok_X6_lastBut ml_X9_78 iv_X6_lastBut ⟨by decide, by decide⟩ (zret_i _) rfl ⟨rfl, by decide⟩ sh_6 ⟨by decide, rfl⟩ (Nat.le_of_ble_eq_true rfl) ?_
    exact P_iret (pc := 62) dX9_choose_62 (⟨rfl, rfl, rfl⟩)
set_option maxRecDepth 20000 in
theorem c_choose_36_58 {l : Launch} {D : va_G} {tw : Nat} {I : AI} {nc : Nat} {nr fr : Nat → Nat} (hC : CSt nc nr fr I 37 41 50) {m : Nat} {gc gt gn : Nat → Nat} (hS : CSg m gc gt gn I 58) {kd h a : Nat} {cm : Option Nat} (hn1 : 1 ≤ nc) (hkd : kd < 4) (hh : h < 8) (ha : a < 8) (hcm : ∀ m, cm = some m → m < 8) : ZP l D zm_X9_choose 0 (zent 6 [.ref 37, .ref 58, .int (nI kd), .int (nI h), .int (zo (-1) cm), .int (nI a)]) [] I (zF tw) (fun v J G => v = some (zo (-1) (zNx nc nr fr (fun c => zSign gc gt gn c a m) kd a h cm)) ∧ I = J ∧ G = zF tw) := by
  show ZP _ _ _ _ [some _, some _, some _, some _, some _, some _] _ _ _ _
  refine P_iload_n (pc := 0) dX9_choose_0 rfl ?_
  have hk4 : kd = 0 ∨ kd = 1 ∨ kd = 2 ∨ kd = 3 := by omega
  rcases hk4 with rfl | rfl | rfl | rfl
  · refine P_tableIn (pc := 1) (tgt := 32) dX9_choose_1 (by decide) (by decide) (by rfl) (by decide) ?_
    refine P_aload_n (pc := 32) dX9_choose_32 rfl ?_
    refine P_iload_n (pc := 33) dX9_choose_33 rfl ?_
    refine P_iload (pc := 34) dX9_choose_34 rfl ?_
    obtain ⟨_, _, _, k1, rfl, rfl, rfl⟩ := c_towards_36 (l := l) (D := D) (tw := tw) hC (h := h) (a := a) hh ha
    refine P_callV (pc := 36) (S := []) (As := [_, _]) k1 dX9_choose_36 ok_X6_towards ml_X9_65 iv_X6_towards ⟨by decide, by decide⟩ (zret_i _) rfl ⟨rfl, by decide⟩ sh_37 ⟨by decide, rfl⟩ (Nat.le_of_ble_eq_true rfl) ?_
    exact P_iret (pc := 39) dX9_choose_39 (⟨rfl, rfl, rfl⟩)
  · refine P_tableIn (pc := 1) (tgt := 40) dX9_choose_1 (by decide) (by decide) (by rfl) (by decide) ?_
    refine P_aload_n (pc := 40) dX9_choose_40 rfl ?_
    refine P_aload_n (pc := 41) dX9_choose_41 rfl ?_
    refine P_iload_n (pc := 42) dX9_choose_42 rfl ?_
    refine P_iload (pc := 43) dX9_choose_43 rfl ?_
    obtain ⟨_, _, _, k1, rfl, rfl, rfl⟩ := c_latestFor_58 (l := l) (D := D) (tw := tw) hS (h := h) (a := a) hh ha
    refine P_callV (pc := 45) (S := [_]) (As := [_, _]) k1 dX9_choose_45 ok_X5_latestFor ml_X9_69 iv_X5_latestFor ⟨by decide, by decide⟩ (zret_i _) rfl ⟨rfl, by decide⟩ sh_58 ⟨by decide, rfl⟩ (Nat.le_of_ble_eq_true rfl) ?_
    refine P_iload_n (pc := 48) dX9_choose_48 rfl ?_
    refine P_iload (pc := 49) dX9_choose_49 rfl ?_
    obtain ⟨_, _, _, k2, rfl, rfl, rfl⟩ := c_chooseBySign_36 (l := l) (D := D) (tw := tw) hC (h := h) (cm := cm) (sg := zSign gc gt gn h a m) hh (fun p e => zSign_lt (b := 8) (fun j hj => (hS.2.2 j hj).2.2.2) e) hcm
    refine P_callS (pc := 51) (S := []) (As := [_, _, _, _]) k2 dX9_choose_51 ok_X9_chooseBySign ml_X9_74 is_X9_chooseBySign ⟨by decide, by decide⟩ (zret_i _) rfl ⟨rfl, by decide⟩ (Nat.le_of_ble_eq_true rfl) ?_
    exact P_iret (pc := 54) dX9_choose_54 (⟨rfl, rfl, rfl⟩)
  · refine P_tableIn (pc := 1) (tgt := 32) dX9_choose_1 (by decide) (by decide) (by rfl) (by decide) ?_
    refine P_aload_n (pc := 32) dX9_choose_32 rfl ?_
    refine P_iload_n (pc := 33) dX9_choose_33 rfl ?_
    refine P_iload (pc := 34) dX9_choose_34 rfl ?_
    obtain ⟨_, _, _, k1, rfl, rfl, rfl⟩ := c_towards_36 (l := l) (D := D) (tw := tw) hC (h := h) (a := a) hh ha
    refine P_callV (pc := 36) (S := []) (As := [_, _]) k1 dX9_choose_36 ok_X6_towards ml_X9_65 iv_X6_towards ⟨by decide, by decide⟩ (zret_i _) rfl ⟨rfl, by decide⟩ sh_37 ⟨by decide, rfl⟩ (Nat.le_of_ble_eq_true rfl) ?_
    exact P_iret (pc := 39) dX9_choose_39 (⟨rfl, rfl, rfl⟩)
  · refine P_tableIn (pc := 1) (tgt := 55) dX9_choose_1 (by decide) (by decide) (by rfl) (by decide) ?_
    refine P_aload_n (pc := 55) dX9_choose_55 rfl ?_
    refine P_iload_n (pc := 56) dX9_choose_56 rfl ?_
    refine P_iload (pc := 57) dX9_choose_57 rfl ?_
    obtain ⟨_, _, _, k1, rfl, rfl, rfl⟩ := c_lastBut_36 (l := l) (D := D) (tw := tw) hC (h := h) (cm := cm) hh hn1 hcm
    refine P_callV (pc := 59) (S := []) (As := [_, _]) k1 dX9_choose_59 ok_X6_lastBut ml_X9_78 iv_X6_lastBut ⟨by decide, by decide⟩ (zret_i _) rfl ⟨rfl, by decide⟩ sh_37 ⟨by decide, rfl⟩ (Nat.le_of_ble_eq_true rfl) ?_
    exact P_iret (pc := 62) dX9_choose_62 (⟨rfl, rfl, rfl⟩)
set_option maxRecDepth 20000 in
theorem c_choose_5_70 {l : Launch} {D : va_G} {tw : Nat} {I : AI} {nc : Nat} {nr fr : Nat → Nat} (hC : CSt nc nr fr I 6 10 19) {m : Nat} {gc gt gn : Nat → Nat} (hS : CSg m gc gt gn I 70) {kd h a : Nat} {cm : Option Nat} (hn1 : 1 ≤ nc) (hkd : kd < 4) (hh : h < 8) (ha : a < 8) (hcm : ∀ m, cm = some m → m < 8) : ZP l D zm_X9_choose 0 (zent 6 [.ref 6, .ref 70, .int (nI kd), .int (nI h), .int (zo (-1) cm), .int (nI a)]) [] I (zF tw) (fun v J G => v = some (zo (-1) (zNx nc nr fr (fun c => zSign gc gt gn c a m) kd a h cm)) ∧ I = J ∧ G = zF tw) := by
  show ZP _ _ _ _ [some _, some _, some _, some _, some _, some _] _ _ _ _
  refine P_iload_n (pc := 0) dX9_choose_0 rfl ?_
  have hk4 : kd = 0 ∨ kd = 1 ∨ kd = 2 ∨ kd = 3 := by omega
  rcases hk4 with rfl | rfl | rfl | rfl
  · refine P_tableIn (pc := 1) (tgt := 32) dX9_choose_1 (by decide) (by decide) (by rfl) (by decide) ?_
    refine P_aload_n (pc := 32) dX9_choose_32 rfl ?_
    refine P_iload_n (pc := 33) dX9_choose_33 rfl ?_
    refine P_iload (pc := 34) dX9_choose_34 rfl ?_
    obtain ⟨_, _, _, k1, rfl, rfl, rfl⟩ := c_towards_5 (l := l) (D := D) (tw := tw) hC (h := h) (a := a) hh ha
    refine P_callV (pc := 36) (S := []) (As := [_, _]) k1 dX9_choose_36 ok_X6_towards ml_X9_65 iv_X6_towards ⟨by decide, by decide⟩ (zret_i _) rfl ⟨rfl, by decide⟩ sh_6 ⟨by decide, rfl⟩ (Nat.le_of_ble_eq_true rfl) ?_
    exact P_iret (pc := 39) dX9_choose_39 (⟨rfl, rfl, rfl⟩)
  · refine P_tableIn (pc := 1) (tgt := 40) dX9_choose_1 (by decide) (by decide) (by rfl) (by decide) ?_
    refine P_aload_n (pc := 40) dX9_choose_40 rfl ?_
    refine P_aload_n (pc := 41) dX9_choose_41 rfl ?_
    refine P_iload_n (pc := 42) dX9_choose_42 rfl ?_
    refine P_iload (pc := 43) dX9_choose_43 rfl ?_
    obtain ⟨_, _, _, k1, rfl, rfl, rfl⟩ := c_latestFor_70 (l := l) (D := D) (tw := tw) hS (h := h) (a := a) hh ha
    refine P_callV (pc := 45) (S := [_]) (As := [_, _]) k1 dX9_choose_45 ok_X5_latestFor ml_X9_69 iv_X5_latestFor ⟨by decide, by decide⟩ (zret_i _) rfl ⟨rfl, by decide⟩ sh_70 ⟨by decide, rfl⟩ (Nat.le_of_ble_eq_true rfl) ?_
    refine P_iload_n (pc := 48) dX9_choose_48 rfl ?_
    refine P_iload (pc := 49) dX9_choose_49 rfl ?_
    obtain ⟨_, _, _, k2, rfl, rfl, rfl⟩ := c_chooseBySign_5 (l := l) (D := D) (tw := tw) hC (h := h) (cm := cm) (sg := zSign gc gt gn h a m) hh (fun p e => zSign_lt (b := 8) (fun j hj => (hS.2.2 j hj).2.2.2) e) hcm
    refine P_callS (pc := 51) (S := []) (As := [_, _, _, _]) k2 dX9_choose_51 ok_X9_chooseBySign ml_X9_74 is_X9_chooseBySign ⟨by decide, by decide⟩ (zret_i _) rfl ⟨rfl, by decide⟩ (Nat.le_of_ble_eq_true rfl) ?_
    exact P_iret (pc := 54) dX9_choose_54 (⟨rfl, rfl, rfl⟩)
  · refine P_tableIn (pc := 1) (tgt := 32) dX9_choose_1 (by decide) (by decide) (by rfl) (by decide) ?_
    refine P_aload_n (pc := 32) dX9_choose_32 rfl ?_
    refine P_iload_n (pc := 33) dX9_choose_33 rfl ?_
    refine P_iload (pc := 34) dX9_choose_34 rfl ?_
    obtain ⟨_, _, _, k1, rfl, rfl, rfl⟩ := c_towards_5 (l := l) (D := D) (tw := tw) hC (h := h) (a := a) hh ha
    refine P_callV (pc := 36) (S := []) (As := [_, _]) k1 dX9_choose_36 ok_X6_towards ml_X9_65 iv_X6_towards ⟨by decide, by decide⟩ (zret_i _) rfl ⟨rfl, by decide⟩ sh_6 ⟨by decide, rfl⟩ (Nat.le_of_ble_eq_true rfl) ?_
    exact P_iret (pc := 39) dX9_choose_39 (⟨rfl, rfl, rfl⟩)
  · refine P_tableIn (pc := 1) (tgt := 55) dX9_choose_1 (by decide) (by decide) (by rfl) (by decide) ?_
    refine P_aload_n (pc := 55) dX9_choose_55 rfl ?_
    refine P_iload_n (pc := 56) dX9_choose_56 rfl ?_
    refine P_iload (pc := 57) dX9_choose_57 rfl ?_
    obtain ⟨_, _, _, k1, rfl, rfl, rfl⟩ := c_lastBut_5 (l := l) (D := D) (tw := tw) hC (h := h) (cm := cm) hh hn1 hcm
    refine P_callV (pc := 59) (S := []) (As := [_, _]) k1 dX9_choose_59 ok_X6_lastBut ml_X9_78 iv_X6_lastBut ⟨by decide, by decide⟩ (zret_i _) rfl ⟨rfl, by decide⟩ sh_6 ⟨by decide, rfl⟩ (Nat.le_of_ble_eq_true rfl) ?_
    exact P_iret (pc := 62) dX9_choose_62 (⟨rfl, rfl, rfl⟩)
set_option maxRecDepth 20000 in
theorem c_choose_36_70 {l : Launch} {D : va_G} {tw : Nat} {I : AI} {nc : Nat} {nr fr : Nat → Nat} (hC : CSt nc nr fr I 37 41 50) {m : Nat} {gc gt gn : Nat → Nat} (hS : CSg m gc gt gn I 70) {kd h a : Nat} {cm : Option Nat} (hn1 : 1 ≤ nc) (hkd : kd < 4) (hh : h < 8) (ha : a < 8) (hcm : ∀ m, cm = some m → m < 8) : ZP l D zm_X9_choose 0 (zent 6 [.ref 37, .ref 70, .int (nI kd), .int (nI h), .int (zo (-1) cm), .int (nI a)]) [] I (zF tw) (fun v J G => v = some (zo (-1) (zNx nc nr fr (fun c => zSign gc gt gn c a m) kd a h cm)) ∧ I = J ∧ G = zF tw) := by
  show ZP _ _ _ _ [some _, some _, some _, some _, some _, some _] _ _ _ _
  refine P_iload_n (pc := 0) dX9_choose_0 rfl ?_
  have hk4 : kd = 0 ∨ kd = 1 ∨ kd = 2 ∨ kd = 3 := by omega
  rcases hk4 with rfl | rfl | rfl | rfl
  · refine P_tableIn (pc := 1) (tgt := 32) dX9_choose_1 (by decide) (by decide) (by rfl) (by decide) ?_
    refine P_aload_n (pc := 32) dX9_choose_32 rfl ?_
    refine P_iload_n (pc := 33) dX9_choose_33 rfl ?_
    refine P_iload (pc := 34) dX9_choose_34 rfl ?_
    obtain ⟨_, _, _, k1, rfl, rfl, rfl⟩ := c_towards_36 (l := l) (D := D) (tw := tw) hC (h := h) (a := a) hh ha
    refine P_callV (pc := 36) (S := []) (As := [_, _]) k1 dX9_choose_36 ok_X6_towards ml_X9_65 iv_X6_towards ⟨by decide, by decide⟩ (zret_i _) rfl ⟨rfl, by decide⟩ sh_37 ⟨by decide, rfl⟩ (Nat.le_of_ble_eq_true rfl) ?_
    exact P_iret (pc := 39) dX9_choose_39 (⟨rfl, rfl, rfl⟩)
  · refine P_tableIn (pc := 1) (tgt := 40) dX9_choose_1 (by decide) (by decide) (by rfl) (by decide) ?_
    refine P_aload_n (pc := 40) dX9_choose_40 rfl ?_
    refine P_aload_n (pc := 41) dX9_choose_41 rfl ?_
    refine P_iload_n (pc := 42) dX9_choose_42 rfl ?_
    refine P_iload (pc := 43) dX9_choose_43 rfl ?_
    obtain ⟨_, _, _, k1, rfl, rfl, rfl⟩ := c_latestFor_70 (l := l) (D := D) (tw := tw) hS (h := h) (a := a) hh ha
    refine P_callV (pc := 45) (S := [_]) (As := [_, _]) k1 dX9_choose_45 ok_X5_latestFor ml_X9_69 iv_X5_latestFor ⟨by decide, by decide⟩ (zret_i _) rfl ⟨rfl, by decide⟩ sh_70 ⟨by decide, rfl⟩ (Nat.le_of_ble_eq_true rfl) ?_
    refine P_iload_n (pc := 48) dX9_choose_48 rfl ?_
    refine P_iload (pc := 49) dX9_choose_49 rfl ?_
    obtain ⟨_, _, _, k2, rfl, rfl, rfl⟩ := c_chooseBySign_36 (l := l) (D := D) (tw := tw) hC (h := h) (cm := cm) (sg := zSign gc gt gn h a m) hh (fun p e => zSign_lt (b := 8) (fun j hj => (hS.2.2 j hj).2.2.2) e) hcm
    refine P_callS (pc := 51) (S := []) (As := [_, _, _, _]) k2 dX9_choose_51 ok_X9_chooseBySign ml_X9_74 is_X9_chooseBySign ⟨by decide, by decide⟩ (zret_i _) rfl ⟨rfl, by decide⟩ (Nat.le_of_ble_eq_true rfl) ?_
    exact P_iret (pc := 54) dX9_choose_54 (⟨rfl, rfl, rfl⟩)
  · refine P_tableIn (pc := 1) (tgt := 32) dX9_choose_1 (by decide) (by decide) (by rfl) (by decide) ?_
    refine P_aload_n (pc := 32) dX9_choose_32 rfl ?_
    refine P_iload_n (pc := 33) dX9_choose_33 rfl ?_
    refine P_iload (pc := 34) dX9_choose_34 rfl ?_
    obtain ⟨_, _, _, k1, rfl, rfl, rfl⟩ := c_towards_36 (l := l) (D := D) (tw := tw) hC (h := h) (a := a) hh ha
    refine P_callV (pc := 36) (S := []) (As := [_, _]) k1 dX9_choose_36 ok_X6_towards ml_X9_65 iv_X6_towards ⟨by decide, by decide⟩ (zret_i _) rfl ⟨rfl, by decide⟩ sh_37 ⟨by decide, rfl⟩ (Nat.le_of_ble_eq_true rfl) ?_
    exact P_iret (pc := 39) dX9_choose_39 (⟨rfl, rfl, rfl⟩)
  · refine P_tableIn (pc := 1) (tgt := 55) dX9_choose_1 (by decide) (by decide) (by rfl) (by decide) ?_
    refine P_aload_n (pc := 55) dX9_choose_55 rfl ?_
    refine P_iload_n (pc := 56) dX9_choose_56 rfl ?_
    refine P_iload (pc := 57) dX9_choose_57 rfl ?_
    obtain ⟨_, _, _, k1, rfl, rfl, rfl⟩ := c_lastBut_36 (l := l) (D := D) (tw := tw) hC (h := h) (cm := cm) hh hn1 hcm
    refine P_callV (pc := 59) (S := []) (As := [_, _]) k1 dX9_choose_59 ok_X6_lastBut ml_X9_78 iv_X6_lastBut ⟨by decide, by decide⟩ (zret_i _) rfl ⟨rfl, by decide⟩ sh_37 ⟨by decide, rfl⟩ (Nat.le_of_ble_eq_true rfl) ?_
    exact P_iret (pc := 62) dX9_choose_62 (⟨rfl, rfl, rfl⟩)
