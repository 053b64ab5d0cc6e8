set_option maxRecDepth 20000 in
theorem c_chclear {l : Launch} {D : va_G} {tw : Nat} {I : AI}  : ZP l D zm_X0_clear 0 (zent 1 [.ref 74]) [] I (zF tw) (fun v J G => v = none ∧ G = zF tw ∧ J = zu (zu I 74 5 (nI 0)) 74 6 (nI 0)) := by
  show ZP _ _ _ _ [some _] _ _ _ _
  refine P_aload_n (pc := 0) dX0_clear_0 rfl ?_
  refine P_iconst (pc := 1) (x := nI 0) dX0_clear_1 (by decide) ?_
  refine P_puti (pc := 2) 0 5 dX0_clear_2 fl_X0_27 sh_74 fp_0_5 rfl rfl ?_
  refine P_aload_n (pc := 5) dX0_clear_5 rfl ?_
  refine P_iconst (pc := 6) (x := nI 0) dX0_clear_6 (by decide) ?_
  refine P_puti (pc := 7) 0 6 dX0_clear_7 fl_X0_31 sh_74 fp_0_6 rfl rfl ?_
  exact P_ret (pc := 10) dX0_clear_10 (⟨rfl, rfl, rfl⟩)
set_option maxRecDepth 20000 in
theorem c_note {l : Launch} {D : va_G} {tw : Nat} {I : AI} {o d : Nat} {x1 x2 x3 x4 x5 : Int32} (ho : I 74 5 = nI o) (ho8 : o < 8) (hd : I 74 6 = nI d) (hd8 : d ≤ 8) : ZP l D zm_X0_note 0 (zent 7 [.ref 74, .int x1, .int x2, .int x3, .int x4, .int x5]) [] I (zF tw) (fun v J G => v = none ∧ G = zF tw ∧ zNote o d x1 x2 x3 x4 x5 I J) := by
  show ZP _ _ _ _ [some _, some _, some _, some _, some _, some _, none] _ _ _ _
  refine P_aload_n (pc := 0) dX0_note_0 rfl ?_
  refine P_geti (pc := 1) 0 6 (x := nI (d)) dX0_note_1 fl_X0_31 sh_74 fi_0_6 (hd) ?_
  refine P_bipush (pc := 4) (x := nI 8) dX0_note_4 (by decide) ?_
  refine P_icmp_ltN (pc := 6) (tgt := 28) dX0_note_6 (by decide) (by omega) (by omega) (fun h6 => ?_) (fun h6 => ?_)
  · have h8 : ¬ d = 8 := by omega
    refine P_aload_n (pc := 28) dX0_note_28 rfl ?_
    refine P_geti (pc := 29) 0 5 (x := nI (o)) dX0_note_29 fl_X0_27 sh_74 fi_0_5 (ho) ?_
    refine P_aload_n (pc := 32) dX0_note_32 rfl ?_
    refine P_geti (pc := 33) 0 6 (x := nI (d)) dX0_note_33 fl_X0_31 sh_74 fi_0_6 (hd) ?_
    refine P_iaddN (pc := 36) dX0_note_36 ?_
    refine P_bipush (pc := 37) (x := nI 8) dX0_note_37 (by decide) ?_
    refine P_iremN (pc := 39) dX0_note_39 (by omega) (by omega) (by omega) ?_
    refine P_istore (pc := 40) dX0_note_40 (by decide) rfl ?_
    refine P_aload_n (pc := 42) dX0_note_42 rfl ?_
    refine P_getr (pc := 43) 0 0 dX0_note_43 fl_X0_9 sh_74 fr_0_0 F_74_0 ?_
    refine P_iload (pc := 46) dX0_note_46 rfl ?_
    refine P_iload_n (pc := 48) dX0_note_48 rfl ?_
    refine P_iast (pc := 49) ((((o) + (d)) % 8)) dX0_note_49 sh_75 rfl (by omega) (by decide) ?_
    refine P_aload_n (pc := 50) dX0_note_50 rfl ?_
    refine P_getr (pc := 51) 0 1 dX0_note_51 fl_X0_15 sh_74 fr_0_1 F_74_1 ?_
    refine P_iload (pc := 54) dX0_note_54 rfl ?_
    refine P_iload_n (pc := 56) dX0_note_56 rfl ?_
    refine P_iast (pc := 57) ((((o) + (d)) % 8)) dX0_note_57 sh_76 rfl (by omega) (by decide) ?_
    refine P_aload_n (pc := 58) dX0_note_58 rfl ?_
    refine P_getr (pc := 59) 0 2 dX0_note_59 fl_X0_18 sh_74 fr_0_2 F_74_2 ?_
    refine P_iload (pc := 62) dX0_note_62 rfl ?_
    refine P_iload_n (pc := 64) dX0_note_64 rfl ?_
    refine P_iast (pc := 65) ((((o) + (d)) % 8)) dX0_note_65 sh_77 rfl (by omega) (by decide) ?_
    refine P_aload_n (pc := 66) dX0_note_66 rfl ?_
    refine P_getr (pc := 67) 0 3 dX0_note_67 fl_X0_21 sh_74 fr_0_3 F_74_3 ?_
    refine P_iload (pc := 70) dX0_note_70 rfl ?_
    refine P_iload (pc := 72) dX0_note_72 rfl ?_
    refine P_iast (pc := 74) ((((o) + (d)) % 8)) dX0_note_74 sh_78 rfl (by omega) (by decide) ?_
    refine P_aload_n (pc := 75) dX0_note_75 rfl ?_
    refine P_getr (pc := 76) 0 4 dX0_note_76 fl_X0_24 sh_74 fr_0_4 F_74_4 ?_
    refine P_iload (pc := 79) dX0_note_79 rfl ?_
    refine P_iload (pc := 81) dX0_note_81 rfl ?_
    refine P_iast (pc := 83) ((((o) + (d)) % 8)) dX0_note_83 sh_79 rfl (by omega) (by decide) ?_
    refine P_aload_n (pc := 84) dX0_note_84 rfl ?_
    refine P_dup (pc := 85) dX0_note_85 rfl ?_
    refine P_geti (pc := 86) 0 6 (x := nI (d)) dX0_note_86 fl_X0_31 sh_74 fi_0_6 (hd) ?_
    refine P_iconst (pc := 89) (x := nI 1) dX0_note_89 (by decide) ?_
    refine P_iaddN (pc := 90) dX0_note_90 ?_
    refine P_puti (pc := 91) 0 6 dX0_note_91 fl_X0_31 sh_74 fp_0_6 rfl rfl ?_
    refine P_ret (pc := 94) dX0_note_94 ?_
    unfold zNote zNo zNd
    rw [if_neg h8, if_neg h8]
    refine ⟨rfl, rfl, fun a ha => ?_, ho, rfl, fun j => ⟨Eq.trans (b := zu I 75 ((o + d) % 8) x1 75 j) rfl (zu_if _ _ _ _ _), Eq.trans (b := zu I 76 ((o + d) % 8) x2 76 j) rfl (zu_if _ _ _ _ _), Eq.trans (b := zu I 77 ((o + d) % 8) x3 77 j) rfl (zu_if _ _ _ _ _), Eq.trans (b := zu I 78 ((o + d) % 8) x4 78 j) rfl (zu_if _ _ _ _ _), Eq.trans (b := zu I 79 ((o + d) % 8) x5 79 j) rfl (zu_if _ _ _ _ _)⟩⟩
    repeat rw [zu_o _ _ (by omega)]
  · have h8 : d = 8 := by omega
    refine P_aload_n (pc := 9) dX0_note_9 rfl ?_
    refine P_aload_n (pc := 10) dX0_note_10 rfl ?_
    refine P_geti (pc := 11) 0 5 (x := nI (o)) dX0_note_11 fl_X0_27 sh_74 fi_0_5 (ho) ?_
    refine P_iconst (pc := 14) (x := nI 1) dX0_note_14 (by decide) ?_
    refine P_iaddN (pc := 15) dX0_note_15 ?_
    refine P_bipush (pc := 16) (x := nI 8) dX0_note_16 (by decide) ?_
    refine P_iremN (pc := 18) dX0_note_18 (by omega) (by omega) (by omega) ?_
    refine P_puti (pc := 19) 0 5 dX0_note_19 fl_X0_27 sh_74 fp_0_5 rfl rfl ?_
    refine P_aload_n (pc := 22) dX0_note_22 rfl ?_
    refine P_bipush (pc := 23) (x := nI 7) dX0_note_23 (by decide) ?_
    refine P_puti (pc := 25) 0 6 dX0_note_25 fl_X0_31 sh_74 fp_0_6 rfl rfl ?_
    refine P_aload_n (pc := 28) dX0_note_28 rfl ?_
    refine P_geti (pc := 29) 0 5 (x := nI ((o + 1) % 8)) dX0_note_29 fl_X0_27 sh_74 fi_0_5 (rfl) ?_
    refine P_aload_n (pc := 32) dX0_note_32 rfl ?_
    refine P_geti (pc := 33) 0 6 (x := nI (7)) dX0_note_33 fl_X0_31 sh_74 fi_0_6 (rfl) ?_
    refine P_iaddN (pc := 36) dX0_note_36 ?_
    refine P_bipush (pc := 37) (x := nI 8) dX0_note_37 (by decide) ?_
    refine P_iremN (pc := 39) dX0_note_39 (by omega) (by omega) (by omega) ?_
    refine P_istore (pc := 40) dX0_note_40 (by decide) rfl ?_
    refine P_aload_n (pc := 42) dX0_note_42 rfl ?_
    refine P_getr (pc := 43) 0 0 dX0_note_43 fl_X0_9 sh_74 fr_0_0 F_74_0 ?_
    refine P_iload (pc := 46) dX0_note_46 rfl ?_
    refine P_iload_n (pc := 48) dX0_note_48 rfl ?_
    refine P_iast (pc := 49) (((((o + 1) % 8) + (7)) % 8)) dX0_note_49 sh_75 rfl (by omega) (by decide) ?_
    refine P_aload_n (pc := 50) dX0_note_50 rfl ?_
    refine P_getr (pc := 51) 0 1 dX0_note_51 fl_X0_15 sh_74 fr_0_1 F_74_1 ?_
    refine P_iload (pc := 54) dX0_note_54 rfl ?_
    refine P_iload_n (pc := 56) dX0_note_56 rfl ?_
    refine P_iast (pc := 57) (((((o + 1) % 8) + (7)) % 8)) dX0_note_57 sh_76 rfl (by omega) (by decide) ?_
    refine P_aload_n (pc := 58) dX0_note_58 rfl ?_
    refine P_getr (pc := 59) 0 2 dX0_note_59 fl_X0_18 sh_74 fr_0_2 F_74_2 ?_
    refine P_iload (pc := 62) dX0_note_62 rfl ?_
    refine P_iload_n (pc := 64) dX0_note_64 rfl ?_
    refine P_iast (pc := 65) (((((o + 1) % 8) + (7)) % 8)) dX0_note_65 sh_77 rfl (by omega) (by decide) ?_
    refine P_aload_n (pc := 66) dX0_note_66 rfl ?_
    refine P_getr (pc := 67) 0 3 dX0_note_67 fl_X0_21 sh_74 fr_0_3 F_74_3 ?_
    refine P_iload (pc := 70) dX0_note_70 rfl ?_
    refine P_iload (pc := 72) dX0_note_72 rfl ?_
    refine P_iast (pc := 74) (((((o + 1) % 8) + (7)) % 8)) dX0_note_74 sh_78 rfl (by omega) (by decide) ?_
    refine P_aload_n (pc := 75) dX0_note_75 rfl ?_
    refine P_getr (pc := 76) 0 4 dX0_note_76 fl_X0_24 sh_74 fr_0_4 F_74_4 ?_
    refine P_iload (pc := 79) dX0_note_79 rfl ?_
    refine P_iload (pc := 81) dX0_note_81 rfl ?_
    refine P_iast (pc := 83) (((((o + 1) % 8) + (7)) % 8)) dX0_note_83 sh_79 rfl (by omega) (by decide) ?_
    refine P_aload_n (pc := 84) dX0_note_84 rfl ?_
    refine P_dup (pc := 85) dX0_note_85 rfl ?_
    refine P_geti (pc := 86) 0 6 (x := nI (7)) dX0_note_86 fl_X0_31 sh_74 fi_0_6 (rfl) ?_
    refine P_iconst (pc := 89) (x := nI 1) dX0_note_89 (by decide) ?_
    refine P_iaddN (pc := 90) dX0_note_90 ?_
    refine P_puti (pc := 91) 0 6 dX0_note_91 fl_X0_31 sh_74 fp_0_6 rfl rfl ?_
    refine P_ret (pc := 94) dX0_note_94 ?_
    unfold zNote zNo zNd
    rw [if_pos h8, if_pos h8]
    refine ⟨rfl, rfl, fun a ha => ?_, rfl, rfl, fun j => ⟨Eq.trans (b := zu I 75 (((o + 1) % 8 + 7) % 8) x1 75 j) rfl (zu_if _ _ _ _ _), Eq.trans (b := zu I 76 (((o + 1) % 8 + 7) % 8) x2 76 j) rfl (zu_if _ _ _ _ _), Eq.trans (b := zu I 77 (((o + 1) % 8 + 7) % 8) x3 77 j) rfl (zu_if _ _ _ _ _), Eq.trans (b := zu I 78 (((o + 1) % 8 + 7) % 8) x4 78 j) rfl (zu_if _ _ _ _ _), Eq.trans (b := zu I 79 (((o + 1) % 8 + 7) % 8) x5 79 j) rfl (zu_if _ _ _ _ _)⟩⟩
    repeat rw [zu_o _ _ (by omega)]
set_option maxRecDepth 20000 in
theorem c_revert0_5 {l : Launch} {D : va_G} {tw : Nat} {I : AI} {o d : Nat} (ho : I 74 5 = nI o) (ho8 : o < 8) (hd : I 74 6 = nI d) (hd1 : 1 ≤ d) (hd8 : d ≤ 8) {m : Nat} {gc gt gn : Nat → Nat} {k : Nat} (hS : CSg m gc gt gn I 27) (hs : I 75 ((o + (d - 1)) % 8) = nI 0) (hn : I 76 ((o + (d - 1)) % 8) = nI k) (hk : k < m) : ZP l D zm_X0_revertLatest 0 (zent 3 [.ref 74, .ref 5]) [] I (zF tw) (fun v J G => v = none ∧ G = zF tw ∧ (∀ x, x ≠ 74 → (x < 27 ∨ 30 < x) → J x = I x) ∧ (J 74 5 = nI o ∧ J 74 6 = nI (d - 1)) ∧ (∀ x, (75 ≤ x ∧ x ≤ 79) → J x = I x) ∧ CSg (m - 1) (delN gc k) (delN gt k) (delN gn k) J 27) := by
  show ZP _ _ _ _ [some _, some _, none] _ _ _ _
  refine P_aload_n (pc := 0) dX0_revertLatest_0 rfl ?_
  refine P_geti (pc := 1) 0 6 (x := nI (d)) dX0_revertLatest_1 fl_X0_31 sh_74 fi_0_6 (hd) ?_
  refine P_if_neT (pc := 4) (tgt := 8) dX0_revertLatest_4 (by decide) (fun z => by rw [show (0 : Int32) = nI 0 from rfl, nI_eq (by omega) (by omega)] at z; omega) ?_
  refine P_aload_n (pc := 8) dX0_revertLatest_8 rfl ?_
  refine P_dup (pc := 9) dX0_revertLatest_9 rfl ?_
  refine P_geti (pc := 10) 0 6 (x := nI (d)) dX0_revertLatest_10 fl_X0_31 sh_74 fi_0_6 (hd) ?_
  refine P_iconst (pc := 13) (x := nI 1) dX0_revertLatest_13 (by decide) ?_
  refine P_isubN (pc := 14) dX0_revertLatest_14 (by omega) ?_
  refine P_puti (pc := 15) 0 6 dX0_revertLatest_15 fl_X0_31 sh_74 fp_0_6 rfl rfl ?_
  refine P_aload_n (pc := 18) dX0_revertLatest_18 rfl ?_
  refine P_geti (pc := 19) 0 5 (x := nI (o)) dX0_revertLatest_19 fl_X0_27 sh_74 fi_0_5 (ho) ?_
  refine P_aload_n (pc := 22) dX0_revertLatest_22 rfl ?_
  refine P_geti (pc := 23) 0 6 (x := nI (d - 1)) dX0_revertLatest_23 fl_X0_31 sh_74 fi_0_6 (rfl) ?_
  refine P_iaddN (pc := 26) dX0_revertLatest_26 ?_
  refine P_bipush (pc := 27) (x := nI 8) dX0_revertLatest_27 (by decide) ?_
  refine P_iremN (pc := 29) dX0_revertLatest_29 (by omega) (by omega) (by omega) ?_
  refine P_istore_n (pc := 30) dX0_revertLatest_30 (by decide) rfl ?_
  refine P_aload_n (pc := 31) dX0_revertLatest_31 rfl ?_
  refine P_getr (pc := 32) 0 0 dX0_revertLatest_32 fl_X0_9 sh_74 fr_0_0 F_74_0 ?_
  refine P_iload_n (pc := 35) dX0_revertLatest_35 rfl ?_
  refine P_iald (pc := 36) ((((o) + (d - 1)) % 8)) (x := nI 0) dX0_revertLatest_36 sh_75 rfl (by omega) (by decide) (hs) ?_
  refine P_lookup (pc := 37) (off := 27) (tgt := 64) dX0_revertLatest_37 (by decide) (by decide) (by decide) ?_
  refine P_aload_n (pc := 64) dX0_revertLatest_64 rfl ?_
  refine P_getr (pc := 65) 8 1 dX0_revertLatest_65 fl_X0_34 sh_5 fr_8_1 F_5_1 ?_
  refine P_aload_n (pc := 68) dX0_revertLatest_68 rfl ?_
  refine P_getr (pc := 69) 0 1 dX0_revertLatest_69 fl_X0_15 sh_74 fr_0_1 F_74_1 ?_
  refine P_iload_n (pc := 72) dX0_revertLatest_72 rfl ?_
  refine P_iald (pc := 73) ((((o) + (d - 1)) % 8)) (x := nI (k)) dX0_revertLatest_73 sh_76 rfl (by omega) (by decide) (hn) ?_
  obtain ⟨_, K, _, kc, rfl, rfl, hK1, hK2⟩ := c_remove_27 (l := l) (D := D) (tw := tw) (hS.eq (J := zu I 74 6 (nI (d - 1))) (zu_o _ _ (by decide)) (zu_o _ _ (by decide)) (zu_o _ _ (by decide)) (zu_o _ _ (by decide))) (k := k) hk
  refine P_callV (pc := 74) (S := []) (As := [_]) kc dX0_revertLatest_74 ok_X5_remove ml_X0_40 iv_X5_remove ⟨by decide, by decide⟩ zret_v rfl ⟨rfl, by decide⟩ sh_27 ⟨by decide, rfl⟩ (Nat.le_of_ble_eq_true rfl) ?_
  refine P_goto (pc := 77) (tgt := 134) dX0_revertLatest_77 (by decide) ?_
  exact P_ret (pc := 134) dX0_revertLatest_134 (⟨rfl, rfl, fun x h1 h2 => (hK1 x (by omega) (by omega) (by omega) (by omega)).trans (zu_o _ _ h1), ⟨(congrFun (hK1 74 (by decide) (by decide) (by decide) (by decide)) 5).trans ho, (congrFun (hK1 74 (by decide) (by decide) (by decide) (by decide)) 6).trans rfl⟩, fun x hx => (hK1 x (by omega) (by omega) (by omega) (by omega)).trans (zu_o _ _ (by omega)), hK2⟩)
set_option maxRecDepth 20000 in
theorem c_revert1_5 {l : Launch} {D : va_G} {tw : Nat} {I : AI} {o d : Nat} (ho : I 74 5 = nI o) (ho8 : o < 8) (hd : I 74 6 = nI d) (hd1 : 1 ≤ d) (hd8 : d ≤ 8) {m : Nat} {gc gt gn : Nat → Nat} {k c a n : Nat} (hS : CSg m gc gt gn I 27) (hs : I 75 ((o + (d - 1)) % 8) = nI 1) (hn : I 76 ((o + (d - 1)) % 8) = nI k) (hx : I 77 ((o + (d - 1)) % 8) = nI c ∧ I 78 ((o + (d - 1)) % 8) = nI a ∧ I 79 ((o + (d - 1)) % 8) = nI n) (hk : k ≤ m) (hm : m ≤ 8) (hc : c < 8) (ha : a < 8) (hn8 : n < 8) : ZP l D zm_X0_revertLatest 0 (zent 3 [.ref 74, .ref 5]) [] I (zF tw) (fun v J G => v = none ∧ G = zF tw ∧ (∀ x, x ≠ 74 → (x < 27 ∨ 30 < x) → J x = I x) ∧ (J 74 5 = nI o ∧ J 74 6 = nI (d - 1)) ∧ (∀ x, (75 ≤ x ∧ x ≤ 79) → J x = I x) ∧ CSg (m + 1) (insN gc k c) (insN gt k a) (insN gn k n) J 27) := by
  show ZP _ _ _ _ [some _, some _, none] _ _ _ _
  refine P_aload_n (pc := 0) dX0_revertLatest_0 rfl ?_
  refine P_geti (pc := 1) 0 6 (x := nI (d)) dX0_revertLatest_1 fl_X0_31 sh_74 fi_0_6 (hd) ?_
  refine P_if_neT (pc := 4) (tgt := 8) dX0_revertLatest_4 (by decide) (fun z => by rw [show (0 : Int32) = nI 0 from rfl, nI_eq (by omega) (by omega)] at z; omega) ?_
  refine P_aload_n (pc := 8) dX0_revertLatest_8 rfl ?_
  refine P_dup (pc := 9) dX0_revertLatest_9 rfl ?_
  refine P_geti (pc := 10) 0 6 (x := nI (d)) dX0_revertLatest_10 fl_X0_31 sh_74 fi_0_6 (hd) ?_
  refine P_iconst (pc := 13) (x := nI 1) dX0_revertLatest_13 (by decide) ?_
  refine P_isubN (pc := 14) dX0_revertLatest_14 (by omega) ?_
  refine P_puti (pc := 15) 0 6 dX0_revertLatest_15 fl_X0_31 sh_74 fp_0_6 rfl rfl ?_
  refine P_aload_n (pc := 18) dX0_revertLatest_18 rfl ?_
  refine P_geti (pc := 19) 0 5 (x := nI (o)) dX0_revertLatest_19 fl_X0_27 sh_74 fi_0_5 (ho) ?_
  refine P_aload_n (pc := 22) dX0_revertLatest_22 rfl ?_
  refine P_geti (pc := 23) 0 6 (x := nI (d - 1)) dX0_revertLatest_23 fl_X0_31 sh_74 fi_0_6 (rfl) ?_
  refine P_iaddN (pc := 26) dX0_revertLatest_26 ?_
  refine P_bipush (pc := 27) (x := nI 8) dX0_revertLatest_27 (by decide) ?_
  refine P_iremN (pc := 29) dX0_revertLatest_29 (by omega) (by omega) (by omega) ?_
  refine P_istore_n (pc := 30) dX0_revertLatest_30 (by decide) rfl ?_
  refine P_aload_n (pc := 31) dX0_revertLatest_31 rfl ?_
  refine P_getr (pc := 32) 0 0 dX0_revertLatest_32 fl_X0_9 sh_74 fr_0_0 F_74_0 ?_
  refine P_iload_n (pc := 35) dX0_revertLatest_35 rfl ?_
  refine P_iald (pc := 36) ((((o) + (d - 1)) % 8)) (x := nI 1) dX0_revertLatest_36 sh_75 rfl (by omega) (by decide) (hs) ?_
  refine P_lookup (pc := 37) (off := 43) (tgt := 80) dX0_revertLatest_37 (by decide) (by decide) (by decide) ?_
  refine P_aload_n (pc := 80) dX0_revertLatest_80 rfl ?_
  refine P_getr (pc := 81) 8 1 dX0_revertLatest_81 fl_X0_34 sh_5 fr_8_1 F_5_1 ?_
  refine P_aload_n (pc := 84) dX0_revertLatest_84 rfl ?_
  refine P_getr (pc := 85) 0 1 dX0_revertLatest_85 fl_X0_15 sh_74 fr_0_1 F_74_1 ?_
  refine P_iload_n (pc := 88) dX0_revertLatest_88 rfl ?_
  refine P_iald (pc := 89) ((((o) + (d - 1)) % 8)) (x := nI (k)) dX0_revertLatest_89 sh_76 rfl (by omega) (by decide) (hn) ?_
  refine P_aload_n (pc := 90) dX0_revertLatest_90 rfl ?_
  refine P_getr (pc := 91) 0 2 dX0_revertLatest_91 fl_X0_18 sh_74 fr_0_2 F_74_2 ?_
  refine P_iload_n (pc := 94) dX0_revertLatest_94 rfl ?_
  refine P_iald (pc := 95) ((((o) + (d - 1)) % 8)) (x := nI (c)) dX0_revertLatest_95 sh_77 rfl (by omega) (by decide) (hx.1) ?_
  refine P_aload_n (pc := 96) dX0_revertLatest_96 rfl ?_
  refine P_getr (pc := 97) 0 3 dX0_revertLatest_97 fl_X0_21 sh_74 fr_0_3 F_74_3 ?_
  refine P_iload_n (pc := 100) dX0_revertLatest_100 rfl ?_
  refine P_iald (pc := 101) ((((o) + (d - 1)) % 8)) (x := nI (a)) dX0_revertLatest_101 sh_78 rfl (by omega) (by decide) (hx.2.1) ?_
  refine P_aload_n (pc := 102) dX0_revertLatest_102 rfl ?_
  refine P_getr (pc := 103) 0 4 dX0_revertLatest_103 fl_X0_24 sh_74 fr_0_4 F_74_4 ?_
  refine P_iload_n (pc := 106) dX0_revertLatest_106 rfl ?_
  refine P_iald (pc := 107) ((((o) + (d - 1)) % 8)) (x := nI (n)) dX0_revertLatest_107 sh_79 rfl (by omega) (by decide) (hx.2.2) ?_
  obtain ⟨_, K, _, kc, rfl, rfl, hK1, hK2⟩ := c_insert_27 (l := l) (D := D) (tw := tw) (hS.eq (J := zu I 74 6 (nI (d - 1))) (zu_o _ _ (by decide)) (zu_o _ _ (by decide)) (zu_o _ _ (by decide)) (zu_o _ _ (by decide))) (k := k) (c := c) (a := a) (n := n) hk hm hc ha hn8
  refine P_callV (pc := 108) (S := []) (As := [_, _, _, _]) kc dX0_revertLatest_108 ok_X5_insert ml_X0_46 iv_X5_insert ⟨by decide, by decide⟩ zret_v rfl ⟨rfl, by decide⟩ sh_27 ⟨by decide, rfl⟩ (Nat.le_of_ble_eq_true rfl) ?_
  refine P_goto (pc := 111) (tgt := 134) dX0_revertLatest_111 (by decide) ?_
  exact P_ret (pc := 134) dX0_revertLatest_134 (⟨rfl, rfl, fun x h1 h2 => (hK1 x (by omega) (by omega) (by omega) (by omega)).trans (zu_o _ _ h1), ⟨(congrFun (hK1 74 (by decide) (by decide) (by decide) (by decide)) 5).trans ho, (congrFun (hK1 74 (by decide) (by decide) (by decide) (by decide)) 6).trans rfl⟩, fun x hx => (hK1 x (by omega) (by omega) (by omega) (by omega)).trans (zu_o _ _ (by omega)), hK2⟩)
set_option maxRecDepth 20000 in
theorem c_revert2_5 {l : Launch} {D : va_G} {tw : Nat} {I : AI} {o d : Nat} (ho : I 74 5 = nI o) (ho8 : o < 8) (hd : I 74 6 = nI d) (hd1 : 1 ≤ d) (hd8 : d ≤ 8) {k a : Nat} (hs : I 75 ((o + (d - 1)) % 8) = nI 2) (hn : I 76 ((o + (d - 1)) % 8) = nI k) (hx : I 78 ((o + (d - 1)) % 8) = nI a) (hk : k < 4) : ZP l D zm_X0_revertLatest 0 (zent 3 [.ref 74, .ref 5]) [] I (zF tw) (fun v J G => v = none ∧ G = zF tw ∧ J = zu (zu I 74 6 (nI (d - 1))) 35 k (nI a)) := by
  show ZP _ _ _ _ [some _, some _, none] _ _ _ _
  refine P_aload_n (pc := 0) dX0_revertLatest_0 rfl ?_
  refine P_geti (pc := 1) 0 6 (x := nI (d)) dX0_revertLatest_1 fl_X0_31 sh_74 fi_0_6 (hd) ?_
  refine P_if_neT (pc := 4) (tgt := 8) dX0_revertLatest_4 (by decide) (fun z => by rw [show (0 : Int32) = nI 0 from rfl, nI_eq (by omega) (by omega)] at z; omega) ?_
  refine P_aload_n (pc := 8) dX0_revertLatest_8 rfl ?_
  refine P_dup (pc := 9) dX0_revertLatest_9 rfl ?_
  refine P_geti (pc := 10) 0 6 (x := nI (d)) dX0_revertLatest_10 fl_X0_31 sh_74 fi_0_6 (hd) ?_
  refine P_iconst (pc := 13) (x := nI 1) dX0_revertLatest_13 (by decide) ?_
  refine P_isubN (pc := 14) dX0_revertLatest_14 (by omega) ?_
  refine P_puti (pc := 15) 0 6 dX0_revertLatest_15 fl_X0_31 sh_74 fp_0_6 rfl rfl ?_
  refine P_aload_n (pc := 18) dX0_revertLatest_18 rfl ?_
  refine P_geti (pc := 19) 0 5 (x := nI (o)) dX0_revertLatest_19 fl_X0_27 sh_74 fi_0_5 (ho) ?_
  refine P_aload_n (pc := 22) dX0_revertLatest_22 rfl ?_
  refine P_geti (pc := 23) 0 6 (x := nI (d - 1)) dX0_revertLatest_23 fl_X0_31 sh_74 fi_0_6 (rfl) ?_
  refine P_iaddN (pc := 26) dX0_revertLatest_26 ?_
  refine P_bipush (pc := 27) (x := nI 8) dX0_revertLatest_27 (by decide) ?_
  refine P_iremN (pc := 29) dX0_revertLatest_29 (by omega) (by omega) (by omega) ?_
  refine P_istore_n (pc := 30) dX0_revertLatest_30 (by decide) rfl ?_
  refine P_aload_n (pc := 31) dX0_revertLatest_31 rfl ?_
  refine P_getr (pc := 32) 0 0 dX0_revertLatest_32 fl_X0_9 sh_74 fr_0_0 F_74_0 ?_
  refine P_iload_n (pc := 35) dX0_revertLatest_35 rfl ?_
  refine P_iald (pc := 36) ((((o) + (d - 1)) % 8)) (x := nI 2) dX0_revertLatest_36 sh_75 rfl (by omega) (by decide) (hs) ?_
  refine P_lookup (pc := 37) (off := 77) (tgt := 114) dX0_revertLatest_37 (by decide) (by decide) (by decide) ?_
  refine P_aload_n (pc := 114) dX0_revertLatest_114 rfl ?_
  refine P_getr (pc := 115) 8 2 dX0_revertLatest_115 fl_X0_50 sh_5 fr_8_2 F_5_2 ?_
  refine P_getr (pc := 118) 10 3 dX0_revertLatest_118 fl_X0_54 sh_31 fr_10_3 F_31_3 ?_
  refine P_aload_n (pc := 121) dX0_revertLatest_121 rfl ?_
  refine P_getr (pc := 122) 0 1 dX0_revertLatest_122 fl_X0_15 sh_74 fr_0_1 F_74_1 ?_
  refine P_iload_n (pc := 125) dX0_revertLatest_125 rfl ?_
  refine P_iald (pc := 126) ((((o) + (d - 1)) % 8)) (x := nI (k)) dX0_revertLatest_126 sh_76 rfl (by omega) (by decide) (hn) ?_
  refine P_aload_n (pc := 127) dX0_revertLatest_127 rfl ?_
  refine P_getr (pc := 128) 0 3 dX0_revertLatest_128 fl_X0_21 sh_74 fr_0_3 F_74_3 ?_
  refine P_iload_n (pc := 131) dX0_revertLatest_131 rfl ?_
  refine P_iald (pc := 132) ((((o) + (d - 1)) % 8)) (x := nI (a)) dX0_revertLatest_132 sh_78 rfl (by omega) (by decide) (hx) ?_
  refine P_iast (pc := 133) ((k)) dX0_revertLatest_133 sh_35 rfl (by omega) (by decide) ?_
  exact P_ret (pc := 134) dX0_revertLatest_134 (⟨rfl, rfl, rfl⟩)
set_option maxRecDepth 20000 in
theorem c_store_5_0 {l : Launch} {D : va_G} {tw : Nat} {I : AI} {m : Nat} {gc gt gn : Nat → Nat} (hS : CSg m gc gt gn I 27) (hc : I 80 2 = nI 0) : ZP l D zm_X3_store 0 (zent 2 [.ref 80, .ref 5]) [] I (zF tw) (fun v J G => v = none ∧ G = zF tw ∧ (∀ a, a ≠ 80 → a ≠ 83 → (a < 85 ∨ 88 < a) → J a = I a) ∧ J 80 2 = nI 1 ∧ CSg m gc gt gn J 85 ∧ ∀ i, i < 4 → J 83 i = I 35 i) := by
  show ZP _ _ _ _ [some _, some _] _ _ _ _
  refine P_aload_n (pc := 0) dX3_store_0 rfl ?_
  refine P_geti (pc := 1) 3 2 (x := nI (0)) dX3_store_1 fl_X3_23 sh_80 fi_3_2 (hc) ?_
  refine P_iconst (pc := 4) (x := nI 2) dX3_store_4 (by decide) ?_
  refine P_icmp_geF (pc := 5) (tgt := 56) dX3_store_5 (by decide) (by decide) ?_
  refine P_aload_n (pc := 8) dX3_store_8 rfl ?_
  refine P_getr (pc := 9) 3 0 dX3_store_9 fl_X3_11 sh_80 fr_3_0 F_80_0 ?_
  refine P_aload_n (pc := 12) dX3_store_12 rfl ?_
  refine P_geti (pc := 13) 3 2 (x := nI (0)) dX3_store_13 fl_X3_23 sh_80 fi_3_2 (hc) ?_
  refine P_aald (pc := 16) (0) dX3_store_16 sh_81 (by decide) rfl (by omega) (by decide) (F_81_0) ?_
  refine P_aload_n (pc := 17) dX3_store_17 rfl ?_
  refine P_getr (pc := 18) 8 1 dX3_store_18 fl_X3_27 sh_5 fr_8_1 F_5_1 ?_
  obtain ⟨_, K, _, kc, rfl, rfl, hK1, hK2⟩ := c_copyFrom_85_27 (l := l) (D := D) (tw := tw) (I := I) hS
  refine P_callV (pc := 21) (S := []) (As := [_]) kc dX3_store_21 ok_X5_copyFrom ml_X3_32 iv_X5_copyFrom ⟨by decide, by decide⟩ zret_v rfl ⟨rfl, by decide⟩ sh_85 ⟨by decide, rfl⟩ (Nat.le_of_ble_eq_true rfl) ?_
  refine P_aload_n (pc := 24) dX3_store_24 rfl ?_
  refine P_getr (pc := 25) 8 2 dX3_store_25 fl_X3_36 sh_5 fr_8_2 F_5_2 ?_
  refine P_getr (pc := 28) 10 3 dX3_store_28 fl_X3_40 sh_31 fr_10_3 F_31_3 ?_
  refine P_iconst (pc := 31) (x := nI 0) dX3_store_31 (by decide) ?_
  refine P_aload_n (pc := 32) dX3_store_32 rfl ?_
  refine P_getr (pc := 33) 3 1 dX3_store_33 fl_X3_19 sh_80 fr_3_1 F_80_1 ?_
  refine P_aload_n (pc := 36) dX3_store_36 rfl ?_
  refine P_geti (pc := 37) 3 2 (x := nI (0)) dX3_store_37 fl_X3_23 sh_80 fi_3_2 ((congrFun (hK1 80 (by decide) (by decide) (by decide) (by decide)) 2).trans hc) ?_
  refine P_aald (pc := 40) (0) dX3_store_40 sh_82 (by decide) rfl (by omega) (by decide) (F_82_0) ?_
  refine P_iconst (pc := 41) (x := nI 0) dX3_store_41 (by decide) ?_
  refine P_iconst (pc := 42) (x := nI 4) dX3_store_42 (by decide) ?_
  refine P_copyi (pc := 43) (4) dX3_store_43 al_X3_45 ac_nat ac_st ac_in sh_35 sh_83 rfl rfl rfl (by decide) (by decide) (by decide) (by decide) (by decide) ?_
  refine P_aload_n (pc := 46) dX3_store_46 rfl ?_
  refine P_dup (pc := 47) dX3_store_47 rfl ?_
  refine P_geti (pc := 48) 3 2 (x := nI (0)) dX3_store_48 fl_X3_23 sh_80 fi_3_2 ((congrFun (hK1 80 (by decide) (by decide) (by decide) (by decide)) 2).trans hc) ?_
  refine P_iconst (pc := 51) (x := nI 1) dX3_store_51 (by decide) ?_
  refine P_iaddN (pc := 52) dX3_store_52 ?_
  refine P_puti (pc := 53) 3 2 dX3_store_53 fl_X3_23 sh_80 fp_3_2 rfl rfl ?_
  exact P_ret (pc := 56) dX3_store_56 (⟨rfl, rfl, fun a h1 h2 h3 => (zu_o _ _ h1).trans ((va_up_n _ _ h2).trans (hK1 a (by omega) (by omega) (by omega) (by omega))), rfl, hK2.eq rfl rfl rfl rfl, fun i hi => (va_cpy_i hi).trans (congrFun (hK1 35 (by decide) (by decide) (by decide) (by decide)) i)⟩)
set_option maxRecDepth 20000 in
theorem c_restore_5_0 {l : Launch} {D : va_G} {tw : Nat} {I : AI} {m : Nat} {gc gt gn : Nat → Nat} (hS : CSg m gc gt gn I 85) (hc : I 80 2 = nI 1) : ZP l D zm_X3_restoreLast 0 (zent 2 [.ref 80, .ref 5]) [] I (zF tw) (fun v J G => v = none ∧ G = zF tw ∧ (∀ a, a ≠ 80 → a ≠ 35 → (a < 27 ∨ 30 < a) → J a = I a) ∧ J 80 2 = nI 0 ∧ CSg m gc gt gn J 27 ∧ ∀ i, i < 4 → J 35 i = I 83 i) := by
  show ZP _ _ _ _ [some _, some _] _ _ _ _
  refine P_aload_n (pc := 0) dX3_restoreLast_0 rfl ?_
  refine P_geti (pc := 1) 3 2 (x := nI (1)) dX3_restoreLast_1 fl_X3_23 sh_80 fi_3_2 (hc) ?_
  refine P_if_leF (pc := 4) (tgt := 55) dX3_restoreLast_4 (by decide) (by rw [nI_le0 (by omega)]; omega) ?_
  refine P_aload_n (pc := 7) dX3_restoreLast_7 rfl ?_
  refine P_dup (pc := 8) dX3_restoreLast_8 rfl ?_
  refine P_geti (pc := 9) 3 2 (x := nI (1)) dX3_restoreLast_9 fl_X3_23 sh_80 fi_3_2 (hc) ?_
  refine P_iconst (pc := 12) (x := nI 1) dX3_restoreLast_12 (by decide) ?_
  refine P_isubN (pc := 13) dX3_restoreLast_13 (by omega) ?_
  refine P_puti (pc := 14) 3 2 dX3_restoreLast_14 fl_X3_23 sh_80 fp_3_2 rfl rfl ?_
  refine P_aload_n (pc := 17) dX3_restoreLast_17 rfl ?_
  refine P_getr (pc := 18) 8 1 dX3_restoreLast_18 fl_X3_27 sh_5 fr_8_1 F_5_1 ?_
  refine P_aload_n (pc := 21) dX3_restoreLast_21 rfl ?_
  refine P_getr (pc := 22) 3 0 dX3_restoreLast_22 fl_X3_11 sh_80 fr_3_0 F_80_0 ?_
  refine P_aload_n (pc := 25) dX3_restoreLast_25 rfl ?_
  refine P_geti (pc := 26) 3 2 (x := nI (0)) dX3_restoreLast_26 fl_X3_23 sh_80 fi_3_2 (rfl) ?_
  refine P_aald (pc := 29) (0) dX3_restoreLast_29 sh_81 (by decide) rfl (by omega) (by decide) (F_81_0) ?_
  obtain ⟨_, K, _, kc, rfl, rfl, hK1, hK2⟩ := c_copyFrom_27_85 (l := l) (D := D) (tw := tw) (I := zu I 80 2 (nI (1 - 1))) (hS.eq (zu_o _ _ (by decide)) (zu_o _ _ (by decide)) (zu_o _ _ (by decide)) (zu_o _ _ (by decide)))
  refine P_callV (pc := 30) (S := []) (As := [_]) kc dX3_restoreLast_30 ok_X5_copyFrom ml_X3_32 iv_X5_copyFrom ⟨by decide, by decide⟩ zret_v rfl ⟨rfl, by decide⟩ sh_27 ⟨by decide, rfl⟩ (Nat.le_of_ble_eq_true rfl) ?_
  refine P_aload_n (pc := 33) dX3_restoreLast_33 rfl ?_
  refine P_getr (pc := 34) 3 1 dX3_restoreLast_34 fl_X3_19 sh_80 fr_3_1 F_80_1 ?_
  refine P_aload_n (pc := 37) dX3_restoreLast_37 rfl ?_
  refine P_geti (pc := 38) 3 2 (x := nI (0)) dX3_restoreLast_38 fl_X3_23 sh_80 fi_3_2 ((congrFun (hK1 80 (by decide) (by decide) (by decide) (by decide)) 2).trans rfl) ?_
  refine P_aald (pc := 41) (0) dX3_restoreLast_41 sh_82 (by decide) rfl (by omega) (by decide) (F_82_0) ?_
  refine P_iconst (pc := 42) (x := nI 0) dX3_restoreLast_42 (by decide) ?_
  refine P_aload_n (pc := 43) dX3_restoreLast_43 rfl ?_
  refine P_getr (pc := 44) 8 2 dX3_restoreLast_44 fl_X3_36 sh_5 fr_8_2 F_5_2 ?_
  refine P_getr (pc := 47) 10 3 dX3_restoreLast_47 fl_X3_40 sh_31 fr_10_3 F_31_3 ?_
  refine P_iconst (pc := 50) (x := nI 0) dX3_restoreLast_50 (by decide) ?_
  refine P_iconst (pc := 51) (x := nI 4) dX3_restoreLast_51 (by decide) ?_
  refine P_copyi (pc := 52) (4) dX3_restoreLast_52 al_X3_45 ac_nat ac_st ac_in sh_83 sh_35 rfl rfl rfl (by decide) (by decide) (by decide) (by decide) (by decide) ?_
  exact P_ret (pc := 55) dX3_restoreLast_55 (⟨rfl, rfl, fun a h1 h2 h3 => (va_up_n _ _ h2).trans ((hK1 a (by omega) (by omega) (by omega) (by omega)).trans (zu_o _ _ h1)), (congrFun (hK1 80 (by decide) (by decide) (by decide) (by decide)) 2).trans rfl, hK2.eq rfl rfl rfl rfl, fun i hi => (va_cpy_i hi).trans (congrFun (hK1 83 (by decide) (by decide) (by decide) (by decide)) i)⟩)
set_option maxRecDepth 20000 in
theorem c_store_5_1 {l : Launch} {D : va_G} {tw : Nat} {I : AI} {m : Nat} {gc gt gn : Nat → Nat} (hS : CSg m gc gt gn I 27) (hc : I 80 2 = nI 1) : ZP l D zm_X3_store 0 (zent 2 [.ref 80, .ref 5]) [] I (zF tw) (fun v J G => v = none ∧ G = zF tw ∧ (∀ a, a ≠ 80 → a ≠ 84 → (a < 89 ∨ 92 < a) → J a = I a) ∧ J 80 2 = nI 2 ∧ CSg m gc gt gn J 89 ∧ ∀ i, i < 4 → J 84 i = I 35 i) := by
  show ZP _ _ _ _ [some _, some _] _ _ _ _
  refine P_aload_n (pc := 0) dX3_store_0 rfl ?_
  refine P_geti (pc := 1) 3 2 (x := nI (1)) dX3_store_1 fl_X3_23 sh_80 fi_3_2 (hc) ?_
  refine P_iconst (pc := 4) (x := nI 2) dX3_store_4 (by decide) ?_
  refine P_icmp_geF (pc := 5) (tgt := 56) dX3_store_5 (by decide) (by decide) ?_
  refine P_aload_n (pc := 8) dX3_store_8 rfl ?_
  refine P_getr (pc := 9) 3 0 dX3_store_9 fl_X3_11 sh_80 fr_3_0 F_80_0 ?_
  refine P_aload_n (pc := 12) dX3_store_12 rfl ?_
  refine P_geti (pc := 13) 3 2 (x := nI (1)) dX3_store_13 fl_X3_23 sh_80 fi_3_2 (hc) ?_
  refine P_aald (pc := 16) (1) dX3_store_16 sh_81 (by decide) rfl (by omega) (by decide) (F_81_1) ?_
  refine P_aload_n (pc := 17) dX3_store_17 rfl ?_
  refine P_getr (pc := 18) 8 1 dX3_store_18 fl_X3_27 sh_5 fr_8_1 F_5_1 ?_
  obtain ⟨_, K, _, kc, rfl, rfl, hK1, hK2⟩ := c_copyFrom_89_27 (l := l) (D := D) (tw := tw) (I := I) hS
  refine P_callV (pc := 21) (S := []) (As := [_]) kc dX3_store_21 ok_X5_copyFrom ml_X3_32 iv_X5_copyFrom ⟨by decide, by decide⟩ zret_v rfl ⟨rfl, by decide⟩ sh_89 ⟨by decide, rfl⟩ (Nat.le_of_ble_eq_true rfl) ?_
  refine P_aload_n (pc := 24) dX3_store_24 rfl ?_
  refine P_getr (pc := 25) 8 2 dX3_store_25 fl_X3_36 sh_5 fr_8_2 F_5_2 ?_
  refine P_getr (pc := 28) 10 3 dX3_store_28 fl_X3_40 sh_31 fr_10_3 F_31_3 ?_
  refine P_iconst (pc := 31) (x := nI 0) dX3_store_31 (by decide) ?_
  refine P_aload_n (pc := 32) dX3_store_32 rfl ?_
  refine P_getr (pc := 33) 3 1 dX3_store_33 fl_X3_19 sh_80 fr_3_1 F_80_1 ?_
  refine P_aload_n (pc := 36) dX3_store_36 rfl ?_
  refine P_geti (pc := 37) 3 2 (x := nI (1)) dX3_store_37 fl_X3_23 sh_80 fi_3_2 ((congrFun (hK1 80 (by decide) (by decide) (by decide) (by decide)) 2).trans hc) ?_
  refine P_aald (pc := 40) (1) dX3_store_40 sh_82 (by decide) rfl (by omega) (by decide) (F_82_1) ?_
  refine P_iconst (pc := 41) (x := nI 0) dX3_store_41 (by decide) ?_
  refine P_iconst (pc := 42) (x := nI 4) dX3_store_42 (by decide) ?_
  refine P_copyi (pc := 43) (4) dX3_store_43 al_X3_45 ac_nat ac_st ac_in sh_35 sh_84 rfl rfl rfl (by decide) (by decide) (by decide) (by decide) (by decide) ?_
  refine P_aload_n (pc := 46) dX3_store_46 rfl ?_
  refine P_dup (pc := 47) dX3_store_47 rfl ?_
  refine P_geti (pc := 48) 3 2 (x := nI (1)) dX3_store_48 fl_X3_23 sh_80 fi_3_2 ((congrFun (hK1 80 (by decide) (by decide) (by decide) (by decide)) 2).trans hc) ?_
  refine P_iconst (pc := 51) (x := nI 1) dX3_store_51 (by decide) ?_
  refine P_iaddN (pc := 52) dX3_store_52 ?_
  refine P_puti (pc := 53) 3 2 dX3_store_53 fl_X3_23 sh_80 fp_3_2 rfl rfl ?_
  exact P_ret (pc := 56) dX3_store_56 (⟨rfl, rfl, fun a h1 h2 h3 => (zu_o _ _ h1).trans ((va_up_n _ _ h2).trans (hK1 a (by omega) (by omega) (by omega) (by omega))), rfl, hK2.eq rfl rfl rfl rfl, fun i hi => (va_cpy_i hi).trans (congrFun (hK1 35 (by decide) (by decide) (by decide) (by decide)) i)⟩)
set_option maxRecDepth 20000 in
theorem c_restore_5_1 {l : Launch} {D : va_G} {tw : Nat} {I : AI} {m : Nat} {gc gt gn : Nat → Nat} (hS : CSg m gc gt gn I 89) (hc : I 80 2 = nI 2) : ZP l D zm_X3_restoreLast 0 (zent 2 [.ref 80, .ref 5]) [] I (zF tw) (fun v J G => v = none ∧ G = zF tw ∧ (∀ a, a ≠ 80 → a ≠ 35 → (a < 27 ∨ 30 < a) → J a = I a) ∧ J 80 2 = nI 1 ∧ CSg m gc gt gn J 27 ∧ ∀ i, i < 4 → J 35 i = I 84 i) := by
  show ZP _ _ _ _ [some _, some _] _ _ _ _
  refine P_aload_n (pc := 0) dX3_restoreLast_0 rfl ?_
  refine P_geti (pc := 1) 3 2 (x := nI (2)) dX3_restoreLast_1 fl_X3_23 sh_80 fi_3_2 (hc) ?_
  refine P_if_leF (pc := 4) (tgt := 55) dX3_restoreLast_4 (by decide) (by rw [nI_le0 (by omega)]; omega) ?_
  refine P_aload_n (pc := 7) dX3_restoreLast_7 rfl ?_
  refine P_dup (pc := 8) dX3_restoreLast_8 rfl ?_
  refine P_geti (pc := 9) 3 2 (x := nI (2)) dX3_restoreLast_9 fl_X3_23 sh_80 fi_3_2 (hc) ?_
  refine P_iconst (pc := 12) (x := nI 1) dX3_restoreLast_12 (by decide) ?_
  refine P_isubN (pc := 13) dX3_restoreLast_13 (by omega) ?_
  refine P_puti (pc := 14) 3 2 dX3_restoreLast_14 fl_X3_23 sh_80 fp_3_2 rfl rfl ?_
  refine P_aload_n (pc := 17) dX3_restoreLast_17 rfl ?_
  refine P_getr (pc := 18) 8 1 dX3_restoreLast_18 fl_X3_27 sh_5 fr_8_1 F_5_1 ?_
  refine P_aload_n (pc := 21) dX3_restoreLast_21 rfl ?_
  refine P_getr (pc := 22) 3 0 dX3_restoreLast_22 fl_X3_11 sh_80 fr_3_0 F_80_0 ?_
  refine P_aload_n (pc := 25) dX3_restoreLast_25 rfl ?_
  refine P_geti (pc := 26) 3 2 (x := nI (1)) dX3_restoreLast_26 fl_X3_23 sh_80 fi_3_2 (rfl) ?_
  refine P_aald (pc := 29) (1) dX3_restoreLast_29 sh_81 (by decide) rfl (by omega) (by decide) (F_81_1) ?_
  obtain ⟨_, K, _, kc, rfl, rfl, hK1, hK2⟩ := c_copyFrom_27_89 (l := l) (D := D) (tw := tw) (I := zu I 80 2 (nI (2 - 1))) (hS.eq (zu_o _ _ (by decide)) (zu_o _ _ (by decide)) (zu_o _ _ (by decide)) (zu_o _ _ (by decide)))
  refine P_callV (pc := 30) (S := []) (As := [_]) kc dX3_restoreLast_30 ok_X5_copyFrom ml_X3_32 iv_X5_copyFrom ⟨by decide, by decide⟩ zret_v rfl ⟨rfl, by decide⟩ sh_27 ⟨by decide, rfl⟩ (Nat.le_of_ble_eq_true rfl) ?_
  refine P_aload_n (pc := 33) dX3_restoreLast_33 rfl ?_
  refine P_getr (pc := 34) 3 1 dX3_restoreLast_34 fl_X3_19 sh_80 fr_3_1 F_80_1 ?_
  refine P_aload_n (pc := 37) dX3_restoreLast_37 rfl ?_
  refine P_geti (pc := 38) 3 2 (x := nI (1)) dX3_restoreLast_38 fl_X3_23 sh_80 fi_3_2 ((congrFun (hK1 80 (by decide) (by decide) (by decide) (by decide)) 2).trans rfl) ?_
  refine P_aald (pc := 41) (1) dX3_restoreLast_41 sh_82 (by decide) rfl (by omega) (by decide) (F_82_1) ?_
  refine P_iconst (pc := 42) (x := nI 0) dX3_restoreLast_42 (by decide) ?_
  refine P_aload_n (pc := 43) dX3_restoreLast_43 rfl ?_
  refine P_getr (pc := 44) 8 2 dX3_restoreLast_44 fl_X3_36 sh_5 fr_8_2 F_5_2 ?_
  refine P_getr (pc := 47) 10 3 dX3_restoreLast_47 fl_X3_40 sh_31 fr_10_3 F_31_3 ?_
  refine P_iconst (pc := 50) (x := nI 0) dX3_restoreLast_50 (by decide) ?_
  refine P_iconst (pc := 51) (x := nI 4) dX3_restoreLast_51 (by decide) ?_
  refine P_copyi (pc := 52) (4) dX3_restoreLast_52 al_X3_45 ac_nat ac_st ac_in sh_84 sh_35 rfl rfl rfl (by decide) (by decide) (by decide) (by decide) (by decide) ?_
  exact P_ret (pc := 55) dX3_restoreLast_55 (⟨rfl, rfl, fun a h1 h2 h3 => (va_up_n _ _ h2).trans ((hK1 a (by omega) (by omega) (by omega) (by omega)).trans (zu_o _ _ h1)), (congrFun (hK1 80 (by decide) (by decide) (by decide) (by decide)) 2).trans rfl, hK2.eq rfl rfl rfl rfl, fun i hi => (va_cpy_i hi).trans (congrFun (hK1 84 (by decide) (by decide) (by decide) (by decide)) i)⟩)
set_option maxRecDepth 20000 in
theorem c_revert0_36 {l : Launch} {D : va_G} {tw : Nat} {I : AI} {o d : Nat} (ho : I 74 5 = nI o) (ho8 : o < 8) (hd : I 74 6 = nI d) (hd1 : 1 ≤ d) (hd8 : d ≤ 8) {m : Nat} {gc gt gn : Nat → Nat} {k : Nat} (hS : CSg m gc gt gn I 58) (hs : I 75 ((o + (d - 1)) % 8) = nI 0) (hn : I 76 ((o + (d - 1)) % 8) = nI k) (hk : k < m) : ZP l D zm_X0_revertLatest 0 (zent 3 [.ref 74, .ref 36]) [] I (zF tw) (fun v J G => v = none ∧ G = zF tw ∧ (∀ x, x ≠ 74 → (x < 58 ∨ 61 < x) → J x = I x) ∧ (J 74 5 = nI o ∧ J 74 6 = nI (d - 1)) ∧ (∀ x, (75 ≤ x ∧ x ≤ 79) → J x = I x) ∧ CSg (m - 1) (delN gc k) (delN gt k) (delN gn k) J 58) := by
  show ZP _ _ _ _ [some _, some _, none] _ _ _ _
  refine P_aload_n (pc := 0) dX0_revertLatest_0 rfl ?_
  refine P_geti (pc := 1) 0 6 (x := nI (d)) dX0_revertLatest_1 fl_X0_31 sh_74 fi_0_6 (hd) ?_
  refine P_if_neT (pc := 4) (tgt := 8) dX0_revertLatest_4 (by decide) (fun z => by rw [show (0 : Int32) = nI 0 from rfl, nI_eq (by omega) (by omega)] at z; omega) ?_
  refine P_aload_n (pc := 8) dX0_revertLatest_8 rfl ?_
  refine P_dup (pc := 9) dX0_revertLatest_9 rfl ?_
  refine P_geti (pc := 10) 0 6 (x := nI (d)) dX0_revertLatest_10 fl_X0_31 sh_74 fi_0_6 (hd) ?_
  refine P_iconst (pc := 13) (x := nI 1) dX0_revertLatest_13 (by decide) ?_
  refine P_isubN (pc := 14) dX0_revertLatest_14 (by omega) ?_
  refine P_puti (pc := 15) 0 6 dX0_revertLatest_15 fl_X0_31 sh_74 fp_0_6 rfl rfl ?_
  refine P_aload_n (pc := 18) dX0_revertLatest_18 rfl ?_
  refine P_geti (pc := 19) 0 5 (x := nI (o)) dX0_revertLatest_19 fl_X0_27 sh_74 fi_0_5 (ho) ?_
  refine P_aload_n (pc := 22) dX0_revertLatest_22 rfl ?_
  refine P_geti (pc := 23) 0 6 (x := nI (d - 1)) dX0_revertLatest_23 fl_X0_31 sh_74 fi_0_6 (rfl) ?_
  refine P_iaddN (pc := 26) dX0_revertLatest_26 ?_
  refine P_bipush (pc := 27) (x := nI 8) dX0_revertLatest_27 (by decide) ?_
  refine P_iremN (pc := 29) dX0_revertLatest_29 (by omega) (by omega) (by omega) ?_
  refine P_istore_n (pc := 30) dX0_revertLatest_30 (by decide) rfl ?_
  refine P_aload_n (pc := 31) dX0_revertLatest_31 rfl ?_
  refine P_getr (pc := 32) 0 0 dX0_revertLatest_32 fl_X0_9 sh_74 fr_0_0 F_74_0 ?_
  refine P_iload_n (pc := 35) dX0_revertLatest_35 rfl ?_
  refine P_iald (pc := 36) ((((o) + (d - 1)) % 8)) (x := nI 0) dX0_revertLatest_36 sh_75 rfl (by omega) (by decide) (hs) ?_
  refine P_lookup (pc := 37) (off := 27) (tgt := 64) dX0_revertLatest_37 (by decide) (by decide) (by decide) ?_
  refine P_aload_n (pc := 64) dX0_revertLatest_64 rfl ?_
  refine P_getr (pc := 65) 8 1 dX0_revertLatest_65 fl_X0_34 sh_36 fr_8_1 F_36_1 ?_
  refine P_aload_n (pc := 68) dX0_revertLatest_68 rfl ?_
  refine P_getr (pc := 69) 0 1 dX0_revertLatest_69 fl_X0_15 sh_74 fr_0_1 F_74_1 ?_
  refine P_iload_n (pc := 72) dX0_revertLatest_72 rfl ?_
  refine P_iald (pc := 73) ((((o) + (d - 1)) % 8)) (x := nI (k)) dX0_revertLatest_73 sh_76 rfl (by omega) (by decide) (hn) ?_
  obtain ⟨_, K, _, kc, rfl, rfl, hK1, hK2⟩ := c_remove_58 (l := l) (D := D) (tw := tw) (hS.eq (J := zu I 74 6 (nI (d - 1))) (zu_o _ _ (by decide)) (zu_o _ _ (by decide)) (zu_o _ _ (by decide)) (zu_o _ _ (by decide))) (k := k) hk
  refine P_callV (pc := 74) (S := []) (As := [_]) kc dX0_revertLatest_74 ok_X5_remove ml_X0_40 iv_X5_remove ⟨by decide, by decide⟩ zret_v rfl ⟨rfl, by decide⟩ sh_58 ⟨by decide, rfl⟩ (Nat.le_of_ble_eq_true rfl) ?_
  refine P_goto (pc := 77) (tgt := 134) dX0_revertLatest_77 (by decide) ?_
  exact P_ret (pc := 134) dX0_revertLatest_134 (⟨rfl, rfl, fun x h1 h2 => (hK1 x (by omega) (by omega) (by omega) (by omega)).trans (zu_o _ _ h1), ⟨(congrFun (hK1 74 (by decide) (by decide) (by decide) (by decide)) 5).trans ho, (congrFun (hK1 74 (by decide) (by decide) (by decide) (by decide)) 6).trans rfl⟩, fun x hx => (hK1 x (by omega) (by omega) (by omega) (by omega)).trans (zu_o _ _ (by omega)), hK2⟩)
set_option maxRecDepth 20000 in
theorem c_revert1_36 {l : Launch} {D : va_G} {tw : Nat} {I : AI} {o d : Nat} (ho : I 74 5 = nI o) (ho8 : o < 8) (hd : I 74 6 = nI d) (hd1 : 1 ≤ d) (hd8 : d ≤ 8) {m : Nat} {gc gt gn : Nat → Nat} {k c a n : Nat} (hS : CSg m gc gt gn I 58) (hs : I 75 ((o + (d - 1)) % 8) = nI 1) (hn : I 76 ((o + (d - 1)) % 8) = nI k) (hx : I 77 ((o + (d - 1)) % 8) = nI c ∧ I 78 ((o + (d - 1)) % 8) = nI a ∧ I 79 ((o + (d - 1)) % 8) = nI n) (hk : k ≤ m) (hm : m ≤ 8) (hc : c < 8) (ha : a < 8) (hn8 : n < 8) : ZP l D zm_X0_revertLatest 0 (zent 3 [.ref 74, .ref 36]) [] I (zF tw) (fun v J G => v = none ∧ G = zF tw ∧ (∀ x, x ≠ 74 → (x < 58 ∨ 61 < x) → J x = I x) ∧ (J 74 5 = nI o ∧ J 74 6 = nI (d - 1)) ∧ (∀ x, (75 ≤ x ∧ x ≤ 79) → J x = I x) ∧ CSg (m + 1) (insN gc k c) (insN gt k a) (insN gn k n) J 58) := by
  show ZP _ _ _ _ [some _, some _, none] _ _ _ _
  refine P_aload_n (pc := 0) dX0_revertLatest_0 rfl ?_
  refine P_geti (pc := 1) 0 6 (x := nI (d)) dX0_revertLatest_1 fl_X0_31 sh_74 fi_0_6 (hd) ?_
  refine P_if_neT (pc := 4) (tgt := 8) dX0_revertLatest_4 (by decide) (fun z => by rw [show (0 : Int32) = nI 0 from rfl, nI_eq (by omega) (by omega)] at z; omega) ?_
  refine P_aload_n (pc := 8) dX0_revertLatest_8 rfl ?_
  refine P_dup (pc := 9) dX0_revertLatest_9 rfl ?_
  refine P_geti (pc := 10) 0 6 (x := nI (d)) dX0_revertLatest_10 fl_X0_31 sh_74 fi_0_6 (hd) ?_
  refine P_iconst (pc := 13) (x := nI 1) dX0_revertLatest_13 (by decide) ?_
  refine P_isubN (pc := 14) dX0_revertLatest_14 (by omega) ?_
  refine P_puti (pc := 15) 0 6 dX0_revertLatest_15 fl_X0_31 sh_74 fp_0_6 rfl rfl ?_
  refine P_aload_n (pc := 18) dX0_revertLatest_18 rfl ?_
  refine P_geti (pc := 19) 0 5 (x := nI (o)) dX0_revertLatest_19 fl_X0_27 sh_74 fi_0_5 (ho) ?_
  refine P_aload_n (pc := 22) dX0_revertLatest_22 rfl ?_
  refine P_geti (pc := 23) 0 6 (x := nI (d - 1)) dX0_revertLatest_23 fl_X0_31 sh_74 fi_0_6 (rfl) ?_
  refine P_iaddN (pc := 26) dX0_revertLatest_26 ?_
  refine P_bipush (pc := 27) (x := nI 8) dX0_revertLatest_27 (by decide) ?_
  refine P_iremN (pc := 29) dX0_revertLatest_29 (by omega) (by omega) (by omega) ?_
  refine P_istore_n (pc := 30) dX0_revertLatest_30 (by decide) rfl ?_
  refine P_aload_n (pc := 31) dX0_revertLatest_31 rfl ?_
  refine P_getr (pc := 32) 0 0 dX0_revertLatest_32 fl_X0_9 sh_74 fr_0_0 F_74_0 ?_
  refine P_iload_n (pc := 35) dX0_revertLatest_35 rfl ?_
  refine P_iald (pc := 36) ((((o) + (d - 1)) % 8)) (x := nI 1) dX0_revertLatest_36 sh_75 rfl (by omega) (by decide) (hs) ?_
  refine P_lookup (pc := 37) (off := 43) (tgt := 80) dX0_revertLatest_37 (by decide) (by decide) (by decide) ?_
  refine P_aload_n (pc := 80) dX0_revertLatest_80 rfl ?_
  refine P_getr (pc := 81) 8 1 dX0_revertLatest_81 fl_X0_34 sh_36 fr_8_1 F_36_1 ?_
  refine P_aload_n (pc := 84) dX0_revertLatest_84 rfl ?_
  refine P_getr (pc := 85) 0 1 dX0_revertLatest_85 fl_X0_15 sh_74 fr_0_1 F_74_1 ?_
  refine P_iload_n (pc := 88) dX0_revertLatest_88 rfl ?_
  refine P_iald (pc := 89) ((((o) + (d - 1)) % 8)) (x := nI (k)) dX0_revertLatest_89 sh_76 rfl (by omega) (by decide) (hn) ?_
  refine P_aload_n (pc := 90) dX0_revertLatest_90 rfl ?_
  refine P_getr (pc := 91) 0 2 dX0_revertLatest_91 fl_X0_18 sh_74 fr_0_2 F_74_2 ?_
  refine P_iload_n (pc := 94) dX0_revertLatest_94 rfl ?_
  refine P_iald (pc := 95) ((((o) + (d - 1)) % 8)) (x := nI (c)) dX0_revertLatest_95 sh_77 rfl (by omega) (by decide) (hx.1) ?_
  refine P_aload_n (pc := 96) dX0_revertLatest_96 rfl ?_
  refine P_getr (pc := 97) 0 3 dX0_revertLatest_97 fl_X0_21 sh_74 fr_0_3 F_74_3 ?_
  refine P_iload_n (pc := 100) dX0_revertLatest_100 rfl ?_
  refine P_iald (pc := 101) ((((o) + (d - 1)) % 8)) (x := nI (a)) dX0_revertLatest_101 sh_78 rfl (by omega) (by decide) (hx.2.1) ?_
  refine P_aload_n (pc := 102) dX0_revertLatest_102 rfl ?_
  refine P_getr (pc := 103) 0 4 dX0_revertLatest_103 fl_X0_24 sh_74 fr_0_4 F_74_4 ?_
  refine P_iload_n (pc := 106) dX0_revertLatest_106 rfl ?_
  refine P_iald (pc := 107) ((((o) + (d - 1)) % 8)) (x := nI (n)) dX0_revertLatest_107 sh_79 rfl (by omega) (by decide) (hx.2.2) ?_
  obtain ⟨_, K, _, kc, rfl, rfl, hK1, hK2⟩ := c_insert_58 (l := l) (D := D) (tw := tw) (hS.eq (J := zu I 74 6 (nI (d - 1))) (zu_o _ _ (by decide)) (zu_o _ _ (by decide)) (zu_o _ _ (by decide)) (zu_o _ _ (by decide))) (k := k) (c := c) (a := a) (n := n) hk hm hc ha hn8
  refine P_callV (pc := 108) (S := []) (As := [_, _, _, _]) kc dX0_revertLatest_108 ok_X5_insert ml_X0_46 iv_X5_insert ⟨by decide, by decide⟩ zret_v rfl ⟨rfl, by decide⟩ sh_58 ⟨by decide, rfl⟩ (Nat.le_of_ble_eq_true rfl) ?_
  refine P_goto (pc := 111) (tgt := 134) dX0_revertLatest_111 (by decide) ?_
  exact P_ret (pc := 134) dX0_revertLatest_134 (⟨rfl, rfl, fun x h1 h2 => (hK1 x (by omega) (by omega) (by omega) (by omega)).trans (zu_o _ _ h1), ⟨(congrFun (hK1 74 (by decide) (by decide) (by decide) (by decide)) 5).trans ho, (congrFun (hK1 74 (by decide) (by decide) (by decide) (by decide)) 6).trans rfl⟩, fun x hx => (hK1 x (by omega) (by omega) (by omega) (by omega)).trans (zu_o _ _ (by omega)), hK2⟩)
set_option maxRecDepth 20000 in
theorem c_revert2_36 {l : Launch} {D : va_G} {tw : Nat} {I : AI} {o d : Nat} (ho : I 74 5 = nI o) (ho8 : o < 8) (hd : I 74 6 = nI d) (hd1 : 1 ≤ d) (hd8 : d ≤ 8) {k a : Nat} (hs : I 75 ((o + (d - 1)) % 8) = nI 2) (hn : I 76 ((o + (d - 1)) % 8) = nI k) (hx : I 78 ((o + (d - 1)) % 8) = nI a) (hk : k < 4) : ZP l D zm_X0_revertLatest 0 (zent 3 [.ref 74, .ref 36]) [] I (zF tw) (fun v J G => v = none ∧ G = zF tw ∧ J = zu (zu I 74 6 (nI (d - 1))) 66 k (nI a)) := by
  show ZP _ _ _ _ [some _, some _, none] _ _ _ _
  refine P_aload_n (pc := 0) dX0_revertLatest_0 rfl ?_
  refine P_geti (pc := 1) 0 6 (x := nI (d)) dX0_revertLatest_1 fl_X0_31 sh_74 fi_0_6 (hd) ?_
  refine P_if_neT (pc := 4) (tgt := 8) dX0_revertLatest_4 (by decide) (fun z => by rw [show (0 : Int32) = nI 0 from rfl, nI_eq (by omega) (by omega)] at z; omega) ?_
  refine P_aload_n (pc := 8) dX0_revertLatest_8 rfl ?_
  refine P_dup (pc := 9) dX0_revertLatest_9 rfl ?_
  refine P_geti (pc := 10) 0 6 (x := nI (d)) dX0_revertLatest_10 fl_X0_31 sh_74 fi_0_6 (hd) ?_
  refine P_iconst (pc := 13) (x := nI 1) dX0_revertLatest_13 (by decide) ?_
  refine P_isubN (pc := 14) dX0_revertLatest_14 (by omega) ?_
  refine P_puti (pc := 15) 0 6 dX0_revertLatest_15 fl_X0_31 sh_74 fp_0_6 rfl rfl ?_
  refine P_aload_n (pc := 18) dX0_revertLatest_18 rfl ?_
  refine P_geti (pc := 19) 0 5 (x := nI (o)) dX0_revertLatest_19 fl_X0_27 sh_74 fi_0_5 (ho) ?_
  refine P_aload_n (pc := 22) dX0_revertLatest_22 rfl ?_
  refine P_geti (pc := 23) 0 6 (x := nI (d - 1)) dX0_revertLatest_23 fl_X0_31 sh_74 fi_0_6 (rfl) ?_
  refine P_iaddN (pc := 26) dX0_revertLatest_26 ?_
  refine P_bipush (pc := 27) (x := nI 8) dX0_revertLatest_27 (by decide) ?_
  refine P_iremN (pc := 29) dX0_revertLatest_29 (by omega) (by omega) (by omega) ?_
  refine P_istore_n (pc := 30) dX0_revertLatest_30 (by decide) rfl ?_
  refine P_aload_n (pc := 31) dX0_revertLatest_31 rfl ?_
  refine P_getr (pc := 32) 0 0 dX0_revertLatest_32 fl_X0_9 sh_74 fr_0_0 F_74_0 ?_
  refine P_iload_n (pc := 35) dX0_revertLatest_35 rfl ?_
  refine P_iald (pc := 36) ((((o) + (d - 1)) % 8)) (x := nI 2) dX0_revertLatest_36 sh_75 rfl (by omega) (by decide) (hs) ?_
  refine P_lookup (pc := 37) (off := 77) (tgt := 114) dX0_revertLatest_37 (by decide) (by decide) (by decide) ?_
  refine P_aload_n (pc := 114) dX0_revertLatest_114 rfl ?_
  refine P_getr (pc := 115) 8 2 dX0_revertLatest_115 fl_X0_50 sh_36 fr_8_2 F_36_2 ?_
  refine P_getr (pc := 118) 10 3 dX0_revertLatest_118 fl_X0_54 sh_62 fr_10_3 F_62_3 ?_
  refine P_aload_n (pc := 121) dX0_revertLatest_121 rfl ?_
  refine P_getr (pc := 122) 0 1 dX0_revertLatest_122 fl_X0_15 sh_74 fr_0_1 F_74_1 ?_
  refine P_iload_n (pc := 125) dX0_revertLatest_125 rfl ?_
  refine P_iald (pc := 126) ((((o) + (d - 1)) % 8)) (x := nI (k)) dX0_revertLatest_126 sh_76 rfl (by omega) (by decide) (hn) ?_
  refine P_aload_n (pc := 127) dX0_revertLatest_127 rfl ?_
  refine P_getr (pc := 128) 0 3 dX0_revertLatest_128 fl_X0_21 sh_74 fr_0_3 F_74_3 ?_
  refine P_iload_n (pc := 131) dX0_revertLatest_131 rfl ?_
  refine P_iald (pc := 132) ((((o) + (d - 1)) % 8)) (x := nI (a)) dX0_revertLatest_132 sh_78 rfl (by omega) (by decide) (hx) ?_
  refine P_iast (pc := 133) ((k)) dX0_revertLatest_133 sh_66 rfl (by omega) (by decide) ?_
  exact P_ret (pc := 134) dX0_revertLatest_134 (⟨rfl, rfl, rfl⟩)
set_option maxRecDepth 20000 in
theorem c_store_36_0 {l : Launch} {D : va_G} {tw : Nat} {I : AI} {m : Nat} {gc gt gn : Nat → Nat} (hS : CSg m gc gt gn I 58) (hc : I 80 2 = nI 0) : ZP l D zm_X3_store 0 (zent 2 [.ref 80, .ref 36]) [] I (zF tw) (fun v J G => v = none ∧ G = zF tw ∧ (∀ a, a ≠ 80 → a ≠ 83 → (a < 85 ∨ 88 < a) → J a = I a) ∧ J 80 2 = nI 1 ∧ CSg m gc gt gn J 85 ∧ ∀ i, i < 4 → J 83 i = I 66 i) := by
  show ZP _ _ _ _ [some _, some _] _ _ _ _
  refine P_aload_n (pc := 0) dX3_store_0 rfl ?_
  refine P_geti (pc := 1) 3 2 (x := nI (0)) dX3_store_1 fl_X3_23 sh_80 fi_3_2 (hc) ?_
  refine P_iconst (pc := 4) (x := nI 2) dX3_store_4 (by decide) ?_
  refine P_icmp_geF (pc := 5) (tgt := 56) dX3_store_5 (by decide) (by decide) ?_
  refine P_aload_n (pc := 8) dX3_store_8 rfl ?_
  refine P_getr (pc := 9) 3 0 dX3_store_9 fl_X3_11 sh_80 fr_3_0 F_80_0 ?_
  refine P_aload_n (pc := 12) dX3_store_12 rfl ?_
  refine P_geti (pc := 13) 3 2 (x := nI (0)) dX3_store_13 fl_X3_23 sh_80 fi_3_2 (hc) ?_
  refine P_aald (pc := 16) (0) dX3_store_16 sh_81 (by decide) rfl (by omega) (by decide) (F_81_0) ?_
  refine P_aload_n (pc := 17) dX3_store_17 rfl ?_
  refine P_getr (pc := 18) 8 1 dX3_store_18 fl_X3_27 sh_36 fr_8_1 F_36_1 ?_
  obtain ⟨_, K, _, kc, rfl, rfl, hK1, hK2⟩ := c_copyFrom_85_58 (l := l) (D := D) (tw := tw) (I := I) hS
  refine P_callV (pc := 21) (S := []) (As := [_]) kc dX3_store_21 ok_X5_copyFrom ml_X3_32 iv_X5_copyFrom ⟨by decide, by decide⟩ zret_v rfl ⟨rfl, by decide⟩ sh_85 ⟨by decide, rfl⟩ (Nat.le_of_ble_eq_true rfl) ?_
  refine P_aload_n (pc := 24) dX3_store_24 rfl ?_
  refine P_getr (pc := 25) 8 2 dX3_store_25 fl_X3_36 sh_36 fr_8_2 F_36_2 ?_
  refine P_getr (pc := 28) 10 3 dX3_store_28 fl_X3_40 sh_62 fr_10_3 F_62_3 ?_
  refine P_iconst (pc := 31) (x := nI 0) dX3_store_31 (by decide) ?_
  refine P_aload_n (pc := 32) dX3_store_32 rfl ?_
  refine P_getr (pc := 33) 3 1 dX3_store_33 fl_X3_19 sh_80 fr_3_1 F_80_1 ?_
  refine P_aload_n (pc := 36) dX3_store_36 rfl ?_
  refine P_geti (pc := 37) 3 2 (x := nI (0)) dX3_store_37 fl_X3_23 sh_80 fi_3_2 ((congrFun (hK1 80 (by decide) (by decide) (by decide) (by decide)) 2).trans hc) ?_
  refine P_aald (pc := 40) (0) dX3_store_40 sh_82 (by decide) rfl (by omega) (by decide) (F_82_0) ?_
  refine P_iconst (pc := 41) (x := nI 0) dX3_store_41 (by decide) ?_
  refine P_iconst (pc := 42) (x := nI 4) dX3_store_42 (by decide) ?_
  refine P_copyi (pc := 43) (4) dX3_store_43 al_X3_45 ac_nat ac_st ac_in sh_66 sh_83 rfl rfl rfl (by decide) (by decide) (by decide) (by decide) (by decide) ?_
  refine P_aload_n (pc := 46) dX3_store_46 rfl ?_
  refine P_dup (pc := 47) dX3_store_47 rfl ?_
  refine P_geti (pc := 48) 3 2 (x := nI (0)) dX3_store_48 fl_X3_23 sh_80 fi_3_2 ((congrFun (hK1 80 (by decide) (by decide) (by decide) (by decide)) 2).trans hc) ?_
  refine P_iconst (pc := 51) (x := nI 1) dX3_store_51 (by decide) ?_
  refine P_iaddN (pc := 52) dX3_store_52 ?_
  refine P_puti (pc := 53) 3 2 dX3_store_53 fl_X3_23 sh_80 fp_3_2 rfl rfl ?_
  exact P_ret (pc := 56) dX3_store_56 (⟨rfl, rfl, fun a h1 h2 h3 => (zu_o _ _ h1).trans ((va_up_n _ _ h2).trans (hK1 a (by omega) (by omega) (by omega) (by omega))), rfl, hK2.eq rfl rfl rfl rfl, fun i hi => (va_cpy_i hi).trans (congrFun (hK1 66 (by decide) (by decide) (by decide) (by decide)) i)⟩)
set_option maxRecDepth 20000 in
theorem c_restore_36_0 {l : Launch} {D : va_G} {tw : Nat} {I : AI} {m : Nat} {gc gt gn : Nat → Nat} (hS : CSg m gc gt gn I 85) (hc : I 80 2 = nI 1) : ZP l D zm_X3_restoreLast 0 (zent 2 [.ref 80, .ref 36]) [] I (zF tw) (fun v J G => v = none ∧ G = zF tw ∧ (∀ a, a ≠ 80 → a ≠ 66 → (a < 58 ∨ 61 < a) → J a = I a) ∧ J 80 2 = nI 0 ∧ CSg m gc gt gn J 58 ∧ ∀ i, i < 4 → J 66 i = I 83 i) := by
  show ZP _ _ _ _ [some _, some _] _ _ _ _
  refine P_aload_n (pc := 0) dX3_restoreLast_0 rfl ?_
  refine P_geti (pc := 1) 3 2 (x := nI (1)) dX3_restoreLast_1 fl_X3_23 sh_80 fi_3_2 (hc) ?_
  refine P_if_leF (pc := 4) (tgt := 55) dX3_restoreLast_4 (by decide) (by rw [nI_le0 (by omega)]; omega) ?_
  refine P_aload_n (pc := 7) dX3_restoreLast_7 rfl ?_
  refine P_dup (pc := 8) dX3_restoreLast_8 rfl ?_
  refine P_geti (pc := 9) 3 2 (x := nI (1)) dX3_restoreLast_9 fl_X3_23 sh_80 fi_3_2 (hc) ?_
  refine P_iconst (pc := 12) (x := nI 1) dX3_restoreLast_12 (by decide) ?_
  refine P_isubN (pc := 13) dX3_restoreLast_13 (by omega) ?_
  refine P_puti (pc := 14) 3 2 dX3_restoreLast_14 fl_X3_23 sh_80 fp_3_2 rfl rfl ?_
  refine P_aload_n (pc := 17) dX3_restoreLast_17 rfl ?_
  refine P_getr (pc := 18) 8 1 dX3_restoreLast_18 fl_X3_27 sh_36 fr_8_1 F_36_1 ?_
  refine P_aload_n (pc := 21) dX3_restoreLast_21 rfl ?_
  refine P_getr (pc := 22) 3 0 dX3_restoreLast_22 fl_X3_11 sh_80 fr_3_0 F_80_0 ?_
  refine P_aload_n (pc := 25) dX3_restoreLast_25 rfl ?_
  refine P_geti (pc := 26) 3 2 (x := nI (0)) dX3_restoreLast_26 fl_X3_23 sh_80 fi_3_2 (rfl) ?_
  refine P_aald (pc := 29) (0) dX3_restoreLast_29 sh_81 (by decide) rfl (by omega) (by decide) (F_81_0) ?_
  obtain ⟨_, K, _, kc, rfl, rfl, hK1, hK2⟩ := c_copyFrom_58_85 (l := l) (D := D) (tw := tw) (I := zu I 80 2 (nI (1 - 1))) (hS.eq (zu_o _ _ (by decide)) (zu_o _ _ (by decide)) (zu_o _ _ (by decide)) (zu_o _ _ (by decide)))
  refine P_callV (pc := 30) (S := []) (As := [_]) kc dX3_restoreLast_30 ok_X5_copyFrom ml_X3_32 iv_X5_copyFrom ⟨by decide, by decide⟩ zret_v rfl ⟨rfl, by decide⟩ sh_58 ⟨by decide, rfl⟩ (Nat.le_of_ble_eq_true rfl) ?_
  refine P_aload_n (pc := 33) dX3_restoreLast_33 rfl ?_
  refine P_getr (pc := 34) 3 1 dX3_restoreLast_34 fl_X3_19 sh_80 fr_3_1 F_80_1 ?_
  refine P_aload_n (pc := 37) dX3_restoreLast_37 rfl ?_
  refine P_geti (pc := 38) 3 2 (x := nI (0)) dX3_restoreLast_38 fl_X3_23 sh_80 fi_3_2 ((congrFun (hK1 80 (by decide) (by decide) (by decide) (by decide)) 2).trans rfl) ?_
  refine P_aald (pc := 41) (0) dX3_restoreLast_41 sh_82 (by decide) rfl (by omega) (by decide) (F_82_0) ?_
  refine P_iconst (pc := 42) (x := nI 0) dX3_restoreLast_42 (by decide) ?_
  refine P_aload_n (pc := 43) dX3_restoreLast_43 rfl ?_
  refine P_getr (pc := 44) 8 2 dX3_restoreLast_44 fl_X3_36 sh_36 fr_8_2 F_36_2 ?_
  refine P_getr (pc := 47) 10 3 dX3_restoreLast_47 fl_X3_40 sh_62 fr_10_3 F_62_3 ?_
  refine P_iconst (pc := 50) (x := nI 0) dX3_restoreLast_50 (by decide) ?_
  refine P_iconst (pc := 51) (x := nI 4) dX3_restoreLast_51 (by decide) ?_
  refine P_copyi (pc := 52) (4) dX3_restoreLast_52 al_X3_45 ac_nat ac_st ac_in sh_83 sh_66 rfl rfl rfl (by decide) (by decide) (by decide) (by decide) (by decide) ?_
  exact P_ret (pc := 55) dX3_restoreLast_55 (⟨rfl, rfl, fun a h1 h2 h3 => (va_up_n _ _ h2).trans ((hK1 a (by omega) (by omega) (by omega) (by omega)).trans (zu_o _ _ h1)), (congrFun (hK1 80 (by decide) (by decide) (by decide) (by decide)) 2).trans rfl, hK2.eq rfl rfl rfl rfl, fun i hi => (va_cpy_i hi).trans (congrFun (hK1 83 (by decide) (by decide) (by decide) (by decide)) i)⟩)
set_option maxRecDepth 20000 in
theorem c_store_36_1 {l : Launch} {D : va_G} {tw : Nat} {I : AI} {m : Nat} {gc gt gn : Nat → Nat} (hS : CSg m gc gt gn I 58) (hc : I 80 2 = nI 1) : ZP l D zm_X3_store 0 (zent 2 [.ref 80, .ref 36]) [] I (zF tw) (fun v J G => v = none ∧ G = zF tw ∧ (∀ a, a ≠ 80 → a ≠ 84 → (a < 89 ∨ 92 < a) → J a = I a) ∧ J 80 2 = nI 2 ∧ CSg m gc gt gn J 89 ∧ ∀ i, i < 4 → J 84 i = I 66 i) := by
  show ZP _ _ _ _ [some _, some _] _ _ _ _
  refine P_aload_n (pc := 0) dX3_store_0 rfl ?_
  refine P_geti (pc := 1) 3 2 (x := nI (1)) dX3_store_1 fl_X3_23 sh_80 fi_3_2 (hc) ?_
  refine P_iconst (pc := 4) (x := nI 2) dX3_store_4 (by decide) ?_
  refine P_icmp_geF (pc := 5) (tgt := 56) dX3_store_5 (by decide) (by decide) ?_
  refine P_aload_n (pc := 8) dX3_store_8 rfl ?_
  refine P_getr (pc := 9) 3 0 dX3_store_9 fl_X3_11 sh_80 fr_3_0 F_80_0 ?_
  refine P_aload_n (pc := 12) dX3_store_12 rfl ?_
  refine P_geti (pc := 13) 3 2 (x := nI (1)) dX3_store_13 fl_X3_23 sh_80 fi_3_2 (hc) ?_
  refine P_aald (pc := 16) (1) dX3_store_16 sh_81 (by decide) rfl (by omega) (by decide) (F_81_1) ?_
  refine P_aload_n (pc := 17) dX3_store_17 rfl ?_
  refine P_getr (pc := 18) 8 1 dX3_store_18 fl_X3_27 sh_36 fr_8_1 F_36_1 ?_
  obtain ⟨_, K, _, kc, rfl, rfl, hK1, hK2⟩ := c_copyFrom_89_58 (l := l) (D := D) (tw := tw) (I := I) hS
  refine P_callV (pc := 21) (S := []) (As := [_]) kc dX3_store_21 ok_X5_copyFrom ml_X3_32 iv_X5_copyFrom ⟨by decide, by decide⟩ zret_v rfl ⟨rfl, by decide⟩ sh_89 ⟨by decide, rfl⟩ (Nat.le_of_ble_eq_true rfl) ?_
  refine P_aload_n (pc := 24) dX3_store_24 rfl ?_
  refine P_getr (pc := 25) 8 2 dX3_store_25 fl_X3_36 sh_36 fr_8_2 F_36_2 ?_
  refine P_getr (pc := 28) 10 3 dX3_store_28 fl_X3_40 sh_62 fr_10_3 F_62_3 ?_
  refine P_iconst (pc := 31) (x := nI 0) dX3_store_31 (by decide) ?_
  refine P_aload_n (pc := 32) dX3_store_32 rfl ?_
  refine P_getr (pc := 33) 3 1 dX3_store_33 fl_X3_19 sh_80 fr_3_1 F_80_1 ?_
  refine P_aload_n (pc := 36) dX3_store_36 rfl ?_
  refine P_geti (pc := 37) 3 2 (x := nI (1)) dX3_store_37 fl_X3_23 sh_80 fi_3_2 ((congrFun (hK1 80 (by decide) (by decide) (by decide) (by decide)) 2).trans hc) ?_
  refine P_aald (pc := 40) (1) dX3_store_40 sh_82 (by decide) rfl (by omega) (by decide) (F_82_1) ?_
  refine P_iconst (pc := 41) (x := nI 0) dX3_store_41 (by decide) ?_
  refine P_iconst (pc := 42) (x := nI 4) dX3_store_42 (by decide) ?_
  refine P_copyi (pc := 43) (4) dX3_store_43 al_X3_45 ac_nat ac_st ac_in sh_66 sh_84 rfl rfl rfl (by decide) (by decide) (by decide) (by decide) (by decide) ?_
  refine P_aload_n (pc := 46) dX3_store_46 rfl ?_
  refine P_dup (pc := 47) dX3_store_47 rfl ?_
  refine P_geti (pc := 48) 3 2 (x := nI (1)) dX3_store_48 fl_X3_23 sh_80 fi_3_2 ((congrFun (hK1 80 (by decide) (by decide) (by decide) (by decide)) 2).trans hc) ?_
  refine P_iconst (pc := 51) (x := nI 1) dX3_store_51 (by decide) ?_
  refine P_iaddN (pc := 52) dX3_store_52 ?_
  refine P_puti (pc := 53) 3 2 dX3_store_53 fl_X3_23 sh_80 fp_3_2 rfl rfl ?_
  exact P_ret (pc := 56) dX3_store_56 (⟨rfl, rfl, fun a h1 h2 h3 => (zu_o _ _ h1).trans ((va_up_n _ _ h2).trans (hK1 a (by omega) (by omega) (by omega) (by omega))), rfl, hK2.eq rfl rfl rfl rfl, fun i hi => (va_cpy_i hi).trans (congrFun (hK1 66 (by decide) (by decide) (by decide) (by decide)) i)⟩)
set_option maxRecDepth 20000 in
theorem c_restore_36_1 {l : Launch} {D : va_G} {tw : Nat} {I : AI} {m : Nat} {gc gt gn : Nat → Nat} (hS : CSg m gc gt gn I 89) (hc : I 80 2 = nI 2) : ZP l D zm_X3_restoreLast 0 (zent 2 [.ref 80, .ref 36]) [] I (zF tw) (fun v J G => v = none ∧ G = zF tw ∧ (∀ a, a ≠ 80 → a ≠ 66 → (a < 58 ∨ 61 < a) → J a = I a) ∧ J 80 2 = nI 1 ∧ CSg m gc gt gn J 58 ∧ ∀ i, i < 4 → J 66 i = I 84 i) := by
  show ZP _ _ _ _ [some _, some _] _ _ _ _
  refine P_aload_n (pc := 0) dX3_restoreLast_0 rfl ?_
  refine P_geti (pc := 1) 3 2 (x := nI (2)) dX3_restoreLast_1 fl_X3_23 sh_80 fi_3_2 (hc) ?_
  refine P_if_leF (pc := 4) (tgt := 55) dX3_restoreLast_4 (by decide) (by rw [nI_le0 (by omega)]; omega) ?_
  refine P_aload_n (pc := 7) dX3_restoreLast_7 rfl ?_
  refine P_dup (pc := 8) dX3_restoreLast_8 rfl ?_
  refine P_geti (pc := 9) 3 2 (x := nI (2)) dX3_restoreLast_9 fl_X3_23 sh_80 fi_3_2 (hc) ?_
  refine P_iconst (pc := 12) (x := nI 1) dX3_restoreLast_12 (by decide) ?_
  refine P_isubN (pc := 13) dX3_restoreLast_13 (by omega) ?_
  refine P_puti (pc := 14) 3 2 dX3_restoreLast_14 fl_X3_23 sh_80 fp_3_2 rfl rfl ?_
  refine P_aload_n (pc := 17) dX3_restoreLast_17 rfl ?_
  refine P_getr (pc := 18) 8 1 dX3_restoreLast_18 fl_X3_27 sh_36 fr_8_1 F_36_1 ?_
  refine P_aload_n (pc := 21) dX3_restoreLast_21 rfl ?_
  refine P_getr (pc := 22) 3 0 dX3_restoreLast_22 fl_X3_11 sh_80 fr_3_0 F_80_0 ?_
  refine P_aload_n (pc := 25) dX3_restoreLast_25 rfl ?_
  refine P_geti (pc := 26) 3 2 (x := nI (1)) dX3_restoreLast_26 fl_X3_23 sh_80 fi_3_2 (rfl) ?_
  refine P_aald (pc := 29) (1) dX3_restoreLast_29 sh_81 (by decide) rfl (by omega) (by decide) (F_81_1) ?_
  obtain ⟨_, K, _, kc, rfl, rfl, hK1, hK2⟩ := c_copyFrom_58_89 (l := l) (D := D) (tw := tw) (I := zu I 80 2 (nI (2 - 1))) (hS.eq (zu_o _ _ (by decide)) (zu_o _ _ (by decide)) (zu_o _ _ (by decide)) (zu_o _ _ (by decide)))
  refine P_callV (pc := 30) (S := []) (As := [_]) kc dX3_restoreLast_30 ok_X5_copyFrom ml_X3_32 iv_X5_copyFrom ⟨by decide, by decide⟩ zret_v rfl ⟨rfl, by decide⟩ sh_58 ⟨by decide, rfl⟩ (Nat.le_of_ble_eq_true rfl) ?_
  refine P_aload_n (pc := 33) dX3_restoreLast_33 rfl ?_
  refine P_getr (pc := 34) 3 1 dX3_restoreLast_34 fl_X3_19 sh_80 fr_3_1 F_80_1 ?_
  refine P_aload_n (pc := 37) dX3_restoreLast_37 rfl ?_
  refine P_geti (pc := 38) 3 2 (x := nI (1)) dX3_restoreLast_38 fl_X3_23 sh_80 fi_3_2 ((congrFun (hK1 80 (by decide) (by decide) (by decide) (by decide)) 2).trans rfl) ?_
  refine P_aald (pc := 41) (1) dX3_restoreLast_41 sh_82 (by decide) rfl (by omega) (by decide) (F_82_1) ?_
  refine P_iconst (pc := 42) (x := nI 0) dX3_restoreLast_42 (by decide) ?_
  refine P_aload_n (pc := 43) dX3_restoreLast_43 rfl ?_
  refine P_getr (pc := 44) 8 2 dX3_restoreLast_44 fl_X3_36 sh_36 fr_8_2 F_36_2 ?_
  refine P_getr (pc := 47) 10 3 dX3_restoreLast_47 fl_X3_40 sh_62 fr_10_3 F_62_3 ?_
  refine P_iconst (pc := 50) (x := nI 0) dX3_restoreLast_50 (by decide) ?_
  refine P_iconst (pc := 51) (x := nI 4) dX3_restoreLast_51 (by decide) ?_
  refine P_copyi (pc := 52) (4) dX3_restoreLast_52 al_X3_45 ac_nat ac_st ac_in sh_84 sh_66 rfl rfl rfl (by decide) (by decide) (by decide) (by decide) (by decide) ?_
  exact P_ret (pc := 55) dX3_restoreLast_55 (⟨rfl, rfl, fun a h1 h2 h3 => (va_up_n _ _ h2).trans ((hK1 a (by omega) (by omega) (by omega) (by omega)).trans (zu_o _ _ h1)), (congrFun (hK1 80 (by decide) (by decide) (by decide) (by decide)) 2).trans rfl, hK2.eq rfl rfl rfl rfl, fun i hi => (va_cpy_i hi).trans (congrFun (hK1 84 (by decide) (by decide) (by decide) (by decide)) i)⟩)
