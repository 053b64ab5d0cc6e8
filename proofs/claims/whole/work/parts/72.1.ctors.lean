/-! constructors: of what the system is made -/
def fl_0 : List (Nat × Nat × Nat) := []
def fl_1 : List (Nat × Nat × Nat) := (1, 0, 2) :: fl_0
def fl_2 : List (Nat × Nat × Nat) := (0, 0, 1) :: fl_1
def fl_3 : List (Nat × Nat × Nat) := (3, 0, 4) :: fl_2
def fl_4 : List (Nat × Nat × Nat) := (0, 1, 3) :: fl_3
def fl_5 : List (Nat × Nat × Nat) := (6, 2, 7) :: fl_4
def fl_6 : List (Nat × Nat × Nat) := (6, 3, 8) :: fl_5
def fl_7 : List (Nat × Nat × Nat) := zGl 9 8 ++ fl_6
def fl_8 : List (Nat × Nat × Nat) := (6, 4, 9) :: fl_7
def fl_9 : List (Nat × Nat × Nat) := zGl 18 8 ++ fl_8
def fl_10 : List (Nat × Nat × Nat) := (6, 5, 18) :: fl_9
def fl_11 : List (Nat × Nat × Nat) := (5, 0, 6) :: fl_10
def fl_12 : List (Nat × Nat × Nat) := (27, 0, 28) :: fl_11
def fl_13 : List (Nat × Nat × Nat) := (27, 1, 29) :: fl_12
def fl_14 : List (Nat × Nat × Nat) := (27, 2, 30) :: fl_13
def fl_15 : List (Nat × Nat × Nat) := (5, 1, 27) :: fl_14
def fl_16 : List (Nat × Nat × Nat) := (31, 0, 32) :: fl_15
def fl_17 : List (Nat × Nat × Nat) := (31, 1, 33) :: fl_16
def fl_18 : List (Nat × Nat × Nat) := (31, 2, 34) :: fl_17
def fl_19 : List (Nat × Nat × Nat) := (31, 3, 35) :: fl_18
def fl_20 : List (Nat × Nat × Nat) := (5, 2, 31) :: fl_19
def fl_21 : List (Nat × Nat × Nat) := (0, 2, 5) :: fl_20
def fl_22 : List (Nat × Nat × Nat) := (37, 2, 38) :: fl_21
def fl_23 : List (Nat × Nat × Nat) := (37, 3, 39) :: fl_22
def fl_24 : List (Nat × Nat × Nat) := zGl 40 8 ++ fl_23
def fl_25 : List (Nat × Nat × Nat) := (37, 4, 40) :: fl_24
def fl_26 : List (Nat × Nat × Nat) := zGl 49 8 ++ fl_25
def fl_27 : List (Nat × Nat × Nat) := (37, 5, 49) :: fl_26
def fl_28 : List (Nat × Nat × Nat) := (36, 0, 37) :: fl_27
def fl_29 : List (Nat × Nat × Nat) := (58, 0, 59) :: fl_28
def fl_30 : List (Nat × Nat × Nat) := (58, 1, 60) :: fl_29
def fl_31 : List (Nat × Nat × Nat) := (58, 2, 61) :: fl_30
def fl_32 : List (Nat × Nat × Nat) := (36, 1, 58) :: fl_31
def fl_33 : List (Nat × Nat × Nat) := (62, 0, 63) :: fl_32
def fl_34 : List (Nat × Nat × Nat) := (62, 1, 64) :: fl_33
def fl_35 : List (Nat × Nat × Nat) := (62, 2, 65) :: fl_34
def fl_36 : List (Nat × Nat × Nat) := (62, 3, 66) :: fl_35
def fl_37 : List (Nat × Nat × Nat) := (36, 2, 62) :: fl_36
def fl_38 : List (Nat × Nat × Nat) := (0, 3, 36) :: fl_37
def fl_39 : List (Nat × Nat × Nat) := (67, 0, 68) :: fl_38
def fl_40 : List (Nat × Nat × Nat) := (67, 1, 69) :: fl_39
def fl_41 : List (Nat × Nat × Nat) := (0, 4, 67) :: fl_40
def fl_42 : List (Nat × Nat × Nat) := (70, 0, 71) :: fl_41
def fl_43 : List (Nat × Nat × Nat) := (70, 1, 72) :: fl_42
def fl_44 : List (Nat × Nat × Nat) := (70, 2, 73) :: fl_43
def fl_45 : List (Nat × Nat × Nat) := (0, 5, 70) :: fl_44
def fl_46 : List (Nat × Nat × Nat) := (74, 0, 75) :: fl_45
def fl_47 : List (Nat × Nat × Nat) := (74, 1, 76) :: fl_46
def fl_48 : List (Nat × Nat × Nat) := (74, 2, 77) :: fl_47
def fl_49 : List (Nat × Nat × Nat) := (74, 3, 78) :: fl_48
def fl_50 : List (Nat × Nat × Nat) := (74, 4, 79) :: fl_49
def fl_51 : List (Nat × Nat × Nat) := (0, 6, 74) :: fl_50
def fl_52 : List (Nat × Nat × Nat) := (80, 0, 81) :: fl_51
def fl_53 : List (Nat × Nat × Nat) := zGl 82 2 ++ fl_52
def fl_54 : List (Nat × Nat × Nat) := (80, 1, 82) :: fl_53
def fl_55 : List (Nat × Nat × Nat) := (85, 0, 86) :: fl_54
def fl_56 : List (Nat × Nat × Nat) := (85, 1, 87) :: fl_55
def fl_57 : List (Nat × Nat × Nat) := (85, 2, 88) :: fl_56
def fl_58 : List (Nat × Nat × Nat) := (81, 0, 85) :: fl_57
def fl_59 : List (Nat × Nat × Nat) := (89, 0, 90) :: fl_58
def fl_60 : List (Nat × Nat × Nat) := (89, 1, 91) :: fl_59
def fl_61 : List (Nat × Nat × Nat) := (89, 2, 92) :: fl_60
def fl_62 : List (Nat × Nat × Nat) := (81, 1, 89) :: fl_61
def fl_63 : List (Nat × Nat × Nat) := (0, 7, 80) :: fl_62
def fl_64 : List (Nat × Nat × Nat) := (93, 0, 94) :: fl_63
def fl_65 : List (Nat × Nat × Nat) := (93, 1, 95) :: fl_64
def fl_66 : List (Nat × Nat × Nat) := (93, 2, 96) :: fl_65
def fl_67 : List (Nat × Nat × Nat) := (0, 8, 93) :: fl_66
def fl_68 : List (Nat × Nat × Nat) := (0, 9, 97) :: fl_67
def fl_69 : List (Nat × Nat × Nat) := zGl 98 8 ++ fl_68
def fl_70 : List (Nat × Nat × Nat) := (0, 10, 98) :: fl_69
def fl_71 : List (Nat × Nat × Nat) := (0, 11, 107) :: fl_70
def fl_72 : List (Nat × Nat × Nat) := (0, 12, 108) :: fl_71
set_option maxRecDepth 20000 in
theorem y_X7_1_2 {Y : YP} {l : Launch} {D : va_G} (hYo : zYo Y) : ZC Y l D zm_X7_init (SH.take 3) 0 (zent 1 [.ref 1]) [] z0 (zFov fN fl_0) (SH.take 2) (fun v J G => v = none ∧ z0 = J ∧ zFov fN fl_1 = G) := by
  show ZC _ _ _ _ _ _ [some _] _ _ _ _ _
  refine C_aload_n (pc := 0) dX7_init_0 rfl ?_
  refine C_obj (pc := 1) dX7_init_1 ol_X7_3 (by decide) (by decide) ?_
  refine C_aload_n (pc := 4) dX7_init_4 rfl ?_
  refine C_sipush (pc := 5) (x := nI 200) dX7_init_5 (by decide) ?_
  refine L_newa (pc := 8) (n := 2) (sh2 := (SH.take 3)) 14 200 dX7_init_8 rfl rfl rfl ac_char (by decide) (by decide) rfl (fun _ => rfl) (by decide +kernel) rfl rfl rfl ?_
  refine L_putr (pc := 10) (l1 := fl_1) 7 0 dX7_init_10 fl_X7_9 (n := 2) rfl fr_7_0 (Or.inr ⟨rfl, rfl, zT_in 115 (by decide +kernel) (by decide +kernel)⟩) (by decide) (fun q => rfl) (fun q => rfl) rfl ?_
  exact C_ret (pc := 13) dX7_init_13 ⟨rfl, rfl, rfl⟩
set_option maxRecDepth 20000 in
theorem y_X2_3_4 {Y : YP} {l : Launch} {D : va_G} (hYo : zYo Y) : ZC Y l D zm_X2_init (SH.take 5) 0 (zent 1 [.ref 3]) [] z0 (zFov fN fl_2) (SH.take 4) (fun v J G => v = none ∧ z0 = J ∧ zFov fN fl_3 = G) := by
  show ZC _ _ _ _ _ _ [some _] _ _ _ _ _
  refine C_aload_n (pc := 0) dX2_init_0 rfl ?_
  refine C_obj (pc := 1) dX2_init_1 ol_X2_3 (by decide) (by decide) ?_
  refine C_aload_n (pc := 4) dX2_init_4 rfl ?_
  refine C_iconst (pc := 5) (x := nI 3) dX2_init_5 (by decide) ?_
  refine L_newa (pc := 6) (n := 4) (sh2 := (SH.take 5)) 15 3 dX2_init_6 rfl rfl rfl ac_int (by decide) (by decide) rfl (fun _ => rfl) (by decide +kernel) rfl rfl rfl ?_
  refine L_putr (pc := 8) (l1 := fl_3) 2 0 dX2_init_8 fl_X2_9 (n := 3) rfl fr_2_0 (Or.inr ⟨rfl, rfl, zT_in 131 (by decide +kernel) (by decide +kernel)⟩) (by decide) (fun q => rfl) (fun q => rfl) rfl ?_
  exact C_ret (pc := 11) dX2_init_11 ⟨rfl, rfl, rfl⟩
set_option maxRecDepth 20000 in
theorem y_X6_6_7 {Y : YP} {l : Launch} {D : va_G} (hYo : zYo Y) : ZC Y l D zm_X6_init (SH.take 27) 0 (zent 1 [.ref 6]) [] z0 (zFov fN fl_4) (SH.take 7) (fun v J G => v = none ∧ z0 = J ∧ zFov fN fl_10 = G) := by
  show ZC _ _ _ _ _ _ [some _] _ _ _ _ _
  refine C_aload_n (pc := 0) dX6_init_0 rfl ?_
  refine C_obj (pc := 1) dX6_init_1 ol_X6_3 (by decide) (by decide) ?_
  refine C_aload_n (pc := 4) dX6_init_4 rfl ?_
  refine C_bipush (pc := 5) (x := nI 12) dX6_init_5 (by decide) ?_
  refine L_newa (pc := 7) (n := 7) (sh2 := (SH.take 8)) 15 12 dX6_init_7 rfl rfl rfl ac_int (by decide) (by decide) rfl (fun _ => rfl) (by decide +kernel) rfl rfl rfl ?_
  refine L_putr (pc := 9) (l1 := fl_5) 6 2 dX6_init_9 fl_X6_9 (n := 6) rfl fr_6_2 (Or.inr ⟨rfl, rfl, zT_in 162 (by decide +kernel) (by decide +kernel)⟩) (by decide) (fun q => rfl) (fun q => rfl) rfl ?_
  refine C_aload_n (pc := 12) dX6_init_12 rfl ?_
  refine C_bipush (pc := 13) (x := nI 12) dX6_init_13 (by decide) ?_
  refine L_newa (pc := 15) (n := 8) (sh2 := (SH.take 9)) 15 12 dX6_init_15 rfl rfl rfl ac_int (by decide) (by decide) rfl (fun _ => rfl) (by decide +kernel) rfl rfl rfl ?_
  refine L_putr (pc := 17) (l1 := fl_6) 6 3 dX6_init_17 fl_X6_15 (n := 6) rfl fr_6_3 (Or.inr ⟨rfl, rfl, zT_in 163 (by decide +kernel) (by decide +kernel)⟩) (by decide) (fun q => rfl) (fun q => rfl) rfl ?_
  refine C_aload_n (pc := 20) dX6_init_20 rfl ?_
  refine C_bipush (pc := 21) (x := nI 8) dX6_init_21 (by decide) ?_
  refine C_bipush (pc := 23) (x := nI 8) dX6_init_23 (by decide) ?_
  refine L_multi (pc := 25) (n := 9) (sh2 := (SH.take 18)) (l1 := fl_7) 8 8 dX6_init_25 kl_X6_18 ao_int ac_int (by decide) (by decide) rfl (fun _ _ _ => rfl) rfl (fun _ => rfl) (by decide +kernel) rfl rfl rfl rfl ?_
  refine L_putr (pc := 29) (l1 := fl_8) 6 4 dX6_init_29 fl_X6_20 (n := 6) rfl fr_6_4 (Or.inr ⟨rfl, rfl, zT_in 164 (by decide +kernel) (by decide +kernel)⟩) (by decide) (fun q => rfl) (fun q => rfl) rfl ?_
  refine C_aload_n (pc := 32) dX6_init_32 rfl ?_
  refine C_bipush (pc := 33) (x := nI 8) dX6_init_33 (by decide) ?_
  refine C_bipush (pc := 35) (x := nI 8) dX6_init_35 (by decide) ?_
  refine L_multi (pc := 37) (n := 18) (sh2 := (SH.take 27)) (l1 := fl_9) 8 8 dX6_init_37 kl_X6_18 ao_int ac_int (by decide) (by decide) rfl (fun _ _ _ => rfl) rfl (fun _ => rfl) (by decide +kernel) rfl rfl rfl rfl ?_
  refine L_putr (pc := 41) (l1 := fl_10) 6 5 dX6_init_41 fl_X6_23 (n := 6) rfl fr_6_5 (Or.inr ⟨rfl, rfl, zT_in 168 (by decide +kernel) (by decide +kernel)⟩) (by decide) (fun q => rfl) (fun q => rfl) rfl ?_
  exact C_ret (pc := 44) dX6_init_44 ⟨rfl, rfl, rfl⟩
set_option maxRecDepth 20000 in
theorem y_X5_27_28 {Y : YP} {l : Launch} {D : va_G} (hYo : zYo Y) : ZC Y l D zm_X5_init (SH.take 31) 0 (zent 1 [.ref 27]) [] z0 (zFov fN fl_11) (SH.take 28) (fun v J G => v = none ∧ z0 = J ∧ zFov fN fl_14 = G) := by
  show ZC _ _ _ _ _ _ [some _] _ _ _ _ _
  refine C_aload_n (pc := 0) dX5_init_0 rfl ?_
  refine C_obj (pc := 1) dX5_init_1 ol_X5_3 (by decide) (by decide) ?_
  refine C_aload_n (pc := 4) dX5_init_4 rfl ?_
  refine C_bipush (pc := 5) (x := nI 9) dX5_init_5 (by decide) ?_
  refine L_newa (pc := 7) (n := 28) (sh2 := (SH.take 29)) 15 9 dX5_init_7 rfl rfl rfl ac_int (by decide) (by decide) rfl (fun _ => rfl) (by decide +kernel) rfl rfl rfl ?_
  refine L_putr (pc := 9) (l1 := fl_12) 5 0 dX5_init_9 fl_X5_11 (n := 4) rfl fr_5_0 (Or.inr ⟨rfl, rfl, zT_in 189 (by decide +kernel) (by decide +kernel)⟩) (by decide) (fun q => rfl) (fun q => rfl) rfl ?_
  refine C_aload_n (pc := 12) dX5_init_12 rfl ?_
  refine C_bipush (pc := 13) (x := nI 9) dX5_init_13 (by decide) ?_
  refine L_newa (pc := 15) (n := 29) (sh2 := (SH.take 30)) 15 9 dX5_init_15 rfl rfl rfl ac_int (by decide) (by decide) rfl (fun _ => rfl) (by decide +kernel) rfl rfl rfl ?_
  refine L_putr (pc := 17) (l1 := fl_13) 5 1 dX5_init_17 fl_X5_15 (n := 4) rfl fr_5_1 (Or.inr ⟨rfl, rfl, zT_in 191 (by decide +kernel) (by decide +kernel)⟩) (by decide) (fun q => rfl) (fun q => rfl) rfl ?_
  refine C_aload_n (pc := 20) dX5_init_20 rfl ?_
  refine C_bipush (pc := 21) (x := nI 9) dX5_init_21 (by decide) ?_
  refine L_newa (pc := 23) (n := 30) (sh2 := (SH.take 31)) 15 9 dX5_init_23 rfl rfl rfl ac_int (by decide) (by decide) rfl (fun _ => rfl) (by decide +kernel) rfl rfl rfl ?_
  refine L_putr (pc := 25) (l1 := fl_14) 5 2 dX5_init_25 fl_X5_18 (n := 4) rfl fr_5_2 (Or.inr ⟨rfl, rfl, zT_in 193 (by decide +kernel) (by decide +kernel)⟩) (by decide) (fun q => rfl) (fun q => rfl) rfl ?_
  exact C_ret (pc := 28) dX5_init_28 ⟨rfl, rfl, rfl⟩
set_option maxRecDepth 20000 in
theorem y_X10_31_32 {Y : YP} {l : Launch} {D : va_G} (hYo : zYo Y) : ZC Y l D zm_X10_init (SH.take 36) 0 (zent 1 [.ref 31]) [] z0 (zFov fN fl_15) (SH.take 32) (fun v J G => v = none ∧ z0 = J ∧ zFov fN fl_19 = G) := by
  show ZC _ _ _ _ _ _ [some _] _ _ _ _ _
  refine C_aload_n (pc := 0) dX10_init_0 rfl ?_
  refine C_obj (pc := 1) dX10_init_1 ol_X10_3 (by decide) (by decide) ?_
  refine C_aload_n (pc := 4) dX10_init_4 rfl ?_
  refine C_iconst (pc := 5) (x := nI 4) dX10_init_5 (by decide) ?_
  refine L_newa (pc := 6) (n := 32) (sh2 := (SH.take 33)) 15 4 dX10_init_6 rfl rfl rfl ac_int (by decide) (by decide) rfl (fun _ => rfl) (by decide +kernel) rfl rfl rfl ?_
  refine L_putr (pc := 8) (l1 := fl_16) 10 0 dX10_init_8 fl_X10_9 (n := 5) rfl fr_10_0 (Or.inr ⟨rfl, rfl, zT_in 214 (by decide +kernel) (by decide +kernel)⟩) (by decide) (fun q => rfl) (fun q => rfl) rfl ?_
  refine C_aload_n (pc := 11) dX10_init_11 rfl ?_
  refine C_iconst (pc := 12) (x := nI 4) dX10_init_12 (by decide) ?_
  refine L_newa (pc := 13) (n := 33) (sh2 := (SH.take 34)) 15 4 dX10_init_13 rfl rfl rfl ac_int (by decide) (by decide) rfl (fun _ => rfl) (by decide +kernel) rfl rfl rfl ?_
  refine L_putr (pc := 15) (l1 := fl_17) 10 1 dX10_init_15 fl_X10_15 (n := 5) rfl fr_10_1 (Or.inr ⟨rfl, rfl, zT_in 216 (by decide +kernel) (by decide +kernel)⟩) (by decide) (fun q => rfl) (fun q => rfl) rfl ?_
  refine C_aload_n (pc := 18) dX10_init_18 rfl ?_
  refine C_iconst (pc := 19) (x := nI 4) dX10_init_19 (by decide) ?_
  refine L_newa (pc := 20) (n := 34) (sh2 := (SH.take 35)) 15 4 dX10_init_20 rfl rfl rfl ac_int (by decide) (by decide) rfl (fun _ => rfl) (by decide +kernel) rfl rfl rfl ?_
  refine L_putr (pc := 22) (l1 := fl_18) 10 2 dX10_init_22 fl_X10_18 (n := 5) rfl fr_10_2 (Or.inr ⟨rfl, rfl, zT_in 219 (by decide +kernel) (by decide +kernel)⟩) (by decide) (fun q => rfl) (fun q => rfl) rfl ?_
  refine C_aload_n (pc := 25) dX10_init_25 rfl ?_
  refine C_iconst (pc := 26) (x := nI 4) dX10_init_26 (by decide) ?_
  refine L_newa (pc := 27) (n := 35) (sh2 := (SH.take 36)) 15 4 dX10_init_27 rfl rfl rfl ac_int (by decide) (by decide) rfl (fun _ => rfl) (by decide +kernel) rfl rfl rfl ?_
  refine L_putr (pc := 29) (l1 := fl_19) 10 3 dX10_init_29 fl_X10_21 (n := 5) rfl fr_10_3 (Or.inr ⟨rfl, rfl, zT_in 222 (by decide +kernel) (by decide +kernel)⟩) (by decide) (fun q => rfl) (fun q => rfl) rfl ?_
  exact C_ret (pc := 32) dX10_init_32 ⟨rfl, rfl, rfl⟩
set_option maxRecDepth 20000 in
theorem y_X8_5_6 {Y : YP} {l : Launch} {D : va_G} (hYo : zYo Y) : ZC Y l D zm_X8_init (SH.take 36) 0 (zent 1 [.ref 5]) [] z0 (zFov fN fl_4) (SH.take 6) (fun v J G => v = none ∧ z0 = J ∧ zFov fN fl_20 = G) := by
  show ZC _ _ _ _ _ _ [some _] _ _ _ _ _
  refine C_aload_n (pc := 0) dX8_init_0 rfl ?_
  refine C_obj (pc := 1) dX8_init_1 ol_X8_3 (by decide) (by decide) ?_
  refine C_aload_n (pc := 4) dX8_init_4 rfl ?_
  refine L_new (pc := 5) (n := 6) (sh2 := (SH.take 7)) 6 dX8_init_5 (by decide) kl_X8_9 in_X6 it_X6 rfl (fun _ => rfl) rfl (fun _ => rfl) (by decide +kernel) rfl rfl rfl ?_
  refine C_dup (pc := 8) dX8_init_8 rfl ?_
  obtain ⟨_, _, _, k9, rfl, rfl, rfl⟩ := y_X6_6_7 (Y := Y) (l := l) (D := D) hYo
  refine C_callI (pc := 9) (S := [.ref 6, .ref 5]) (As := []) hYo k9 dX8_init_9 ok_X6_init ml_X8_11 ii_X6_init ⟨by decide, by decide⟩ rfl ⟨rfl, by decide⟩ (Nat.le_of_ble_eq_true rfl) (zNew_of (n := 7) rfl (by decide +kernel) rfl rfl) ?_
  refine L_putr (pc := 12) (l1 := fl_11) 8 0 dX8_init_12 fl_X8_12 (n := 6) rfl fr_8_0 (Or.inr ⟨rfl, rfl, zT_in 241 (by decide +kernel) (by decide +kernel)⟩) (by decide) (fun q => rfl) (fun q => rfl) rfl ?_
  refine C_aload_n (pc := 15) dX8_init_15 rfl ?_
  refine L_new (pc := 16) (n := 27) (sh2 := (SH.take 28)) 5 dX8_init_16 (by decide) kl_X8_18 in_X5 it_X5 rfl (fun _ => rfl) rfl (fun _ => rfl) (by decide +kernel) rfl rfl rfl ?_
  refine C_dup (pc := 19) dX8_init_19 rfl ?_
  obtain ⟨_, _, _, k20, rfl, rfl, rfl⟩ := y_X5_27_28 (Y := Y) (l := l) (D := D) hYo
  refine C_callI (pc := 20) (S := [.ref 27, .ref 5]) (As := []) hYo k20 dX8_init_20 ok_X5_init ml_X8_20 ii_X5_init ⟨by decide, by decide⟩ rfl ⟨rfl, by decide⟩ (Nat.le_of_ble_eq_true rfl) (zNew_of (n := 28) rfl (by decide +kernel) rfl rfl) ?_
  refine L_putr (pc := 23) (l1 := fl_15) 8 1 dX8_init_23 fl_X8_21 (n := 6) rfl fr_8_1 (Or.inr ⟨rfl, rfl, zT_in 245 (by decide +kernel) (by decide +kernel)⟩) (by decide) (fun q => rfl) (fun q => rfl) rfl ?_
  refine C_aload_n (pc := 26) dX8_init_26 rfl ?_
  refine L_new (pc := 27) (n := 31) (sh2 := (SH.take 32)) 10 dX8_init_27 (by decide) kl_X8_25 in_X10 it_X10 rfl (fun _ => rfl) rfl (fun _ => rfl) (by decide +kernel) rfl rfl rfl ?_
  refine C_dup (pc := 30) dX8_init_30 rfl ?_
  obtain ⟨_, _, _, k31, rfl, rfl, rfl⟩ := y_X10_31_32 (Y := Y) (l := l) (D := D) hYo
  refine C_callI (pc := 31) (S := [.ref 31, .ref 5]) (As := []) hYo k31 dX8_init_31 ok_X10_init ml_X8_27 ii_X10_init ⟨by decide, by decide⟩ rfl ⟨rfl, by decide⟩ (Nat.le_of_ble_eq_true rfl) (zNew_of (n := 32) rfl (by decide +kernel) rfl rfl) ?_
  refine L_putr (pc := 34) (l1 := fl_20) 8 2 dX8_init_34 fl_X8_28 (n := 6) rfl fr_8_2 (Or.inr ⟨rfl, rfl, zT_in 250 (by decide +kernel) (by decide +kernel)⟩) (by decide) (fun q => rfl) (fun q => rfl) rfl ?_
  exact C_ret (pc := 37) dX8_init_37 ⟨rfl, rfl, rfl⟩
set_option maxRecDepth 20000 in
theorem y_X6_37_38 {Y : YP} {l : Launch} {D : va_G} (hYo : zYo Y) : ZC Y l D zm_X6_init (SH.take 58) 0 (zent 1 [.ref 37]) [] z0 (zFov fN fl_21) (SH.take 38) (fun v J G => v = none ∧ z0 = J ∧ zFov fN fl_27 = G) := by
  show ZC _ _ _ _ _ _ [some _] _ _ _ _ _
  refine C_aload_n (pc := 0) dX6_init_0 rfl ?_
  refine C_obj (pc := 1) dX6_init_1 ol_X6_3 (by decide) (by decide) ?_
  refine C_aload_n (pc := 4) dX6_init_4 rfl ?_
  refine C_bipush (pc := 5) (x := nI 12) dX6_init_5 (by decide) ?_
  refine L_newa (pc := 7) (n := 38) (sh2 := (SH.take 39)) 15 12 dX6_init_7 rfl rfl rfl ac_int (by decide) (by decide) rfl (fun _ => rfl) (by decide +kernel) rfl rfl rfl ?_
  refine L_putr (pc := 9) (l1 := fl_22) 6 2 dX6_init_9 fl_X6_9 (n := 6) rfl fr_6_2 (Or.inr ⟨rfl, rfl, zT_in 162 (by decide +kernel) (by decide +kernel)⟩) (by decide) (fun q => rfl) (fun q => rfl) rfl ?_
  refine C_aload_n (pc := 12) dX6_init_12 rfl ?_
  refine C_bipush (pc := 13) (x := nI 12) dX6_init_13 (by decide) ?_
  refine L_newa (pc := 15) (n := 39) (sh2 := (SH.take 40)) 15 12 dX6_init_15 rfl rfl rfl ac_int (by decide) (by decide) rfl (fun _ => rfl) (by decide +kernel) rfl rfl rfl ?_
  refine L_putr (pc := 17) (l1 := fl_23) 6 3 dX6_init_17 fl_X6_15 (n := 6) rfl fr_6_3 (Or.inr ⟨rfl, rfl, zT_in 163 (by decide +kernel) (by decide +kernel)⟩) (by decide) (fun q => rfl) (fun q => rfl) rfl ?_
  refine C_aload_n (pc := 20) dX6_init_20 rfl ?_
  refine C_bipush (pc := 21) (x := nI 8) dX6_init_21 (by decide) ?_
  refine C_bipush (pc := 23) (x := nI 8) dX6_init_23 (by decide) ?_
  refine L_multi (pc := 25) (n := 40) (sh2 := (SH.take 49)) (l1 := fl_24) 8 8 dX6_init_25 kl_X6_18 ao_int ac_int (by decide) (by decide) rfl (fun _ _ _ => rfl) rfl (fun _ => rfl) (by decide +kernel) rfl rfl rfl rfl ?_
  refine L_putr (pc := 29) (l1 := fl_25) 6 4 dX6_init_29 fl_X6_20 (n := 6) rfl fr_6_4 (Or.inr ⟨rfl, rfl, zT_in 164 (by decide +kernel) (by decide +kernel)⟩) (by decide) (fun q => rfl) (fun q => rfl) rfl ?_
  refine C_aload_n (pc := 32) dX6_init_32 rfl ?_
  refine C_bipush (pc := 33) (x := nI 8) dX6_init_33 (by decide) ?_
  refine C_bipush (pc := 35) (x := nI 8) dX6_init_35 (by decide) ?_
  refine L_multi (pc := 37) (n := 49) (sh2 := (SH.take 58)) (l1 := fl_26) 8 8 dX6_init_37 kl_X6_18 ao_int ac_int (by decide) (by decide) rfl (fun _ _ _ => rfl) rfl (fun _ => rfl) (by decide +kernel) rfl rfl rfl rfl ?_
  refine L_putr (pc := 41) (l1 := fl_27) 6 5 dX6_init_41 fl_X6_23 (n := 6) rfl fr_6_5 (Or.inr ⟨rfl, rfl, zT_in 168 (by decide +kernel) (by decide +kernel)⟩) (by decide) (fun q => rfl) (fun q => rfl) rfl ?_
  exact C_ret (pc := 44) dX6_init_44 ⟨rfl, rfl, rfl⟩
set_option maxRecDepth 20000 in
theorem y_X5_58_59 {Y : YP} {l : Launch} {D : va_G} (hYo : zYo Y) : ZC Y l D zm_X5_init (SH.take 62) 0 (zent 1 [.ref 58]) [] z0 (zFov fN fl_28) (SH.take 59) (fun v J G => v = none ∧ z0 = J ∧ zFov fN fl_31 = G) := by
  show ZC _ _ _ _ _ _ [some _] _ _ _ _ _
  refine C_aload_n (pc := 0) dX5_init_0 rfl ?_
  refine C_obj (pc := 1) dX5_init_1 ol_X5_3 (by decide) (by decide) ?_
  refine C_aload_n (pc := 4) dX5_init_4 rfl ?_
  refine C_bipush (pc := 5) (x := nI 9) dX5_init_5 (by decide) ?_
  refine L_newa (pc := 7) (n := 59) (sh2 := (SH.take 60)) 15 9 dX5_init_7 rfl rfl rfl ac_int (by decide) (by decide) rfl (fun _ => rfl) (by decide +kernel) rfl rfl rfl ?_
  refine L_putr (pc := 9) (l1 := fl_29) 5 0 dX5_init_9 fl_X5_11 (n := 4) rfl fr_5_0 (Or.inr ⟨rfl, rfl, zT_in 189 (by decide +kernel) (by decide +kernel)⟩) (by decide) (fun q => rfl) (fun q => rfl) rfl ?_
  refine C_aload_n (pc := 12) dX5_init_12 rfl ?_
  refine C_bipush (pc := 13) (x := nI 9) dX5_init_13 (by decide) ?_
  refine L_newa (pc := 15) (n := 60) (sh2 := (SH.take 61)) 15 9 dX5_init_15 rfl rfl rfl ac_int (by decide) (by decide) rfl (fun _ => rfl) (by decide +kernel) rfl rfl rfl ?_
  refine L_putr (pc := 17) (l1 := fl_30) 5 1 dX5_init_17 fl_X5_15 (n := 4) rfl fr_5_1 (Or.inr ⟨rfl, rfl, zT_in 191 (by decide +kernel) (by decide +kernel)⟩) (by decide) (fun q => rfl) (fun q => rfl) rfl ?_
  refine C_aload_n (pc := 20) dX5_init_20 rfl ?_
  refine C_bipush (pc := 21) (x := nI 9) dX5_init_21 (by decide) ?_
  refine L_newa (pc := 23) (n := 61) (sh2 := (SH.take 62)) 15 9 dX5_init_23 rfl rfl rfl ac_int (by decide) (by decide) rfl (fun _ => rfl) (by decide +kernel) rfl rfl rfl ?_
  refine L_putr (pc := 25) (l1 := fl_31) 5 2 dX5_init_25 fl_X5_18 (n := 4) rfl fr_5_2 (Or.inr ⟨rfl, rfl, zT_in 193 (by decide +kernel) (by decide +kernel)⟩) (by decide) (fun q => rfl) (fun q => rfl) rfl ?_
  exact C_ret (pc := 28) dX5_init_28 ⟨rfl, rfl, rfl⟩
set_option maxRecDepth 20000 in
theorem y_X10_62_63 {Y : YP} {l : Launch} {D : va_G} (hYo : zYo Y) : ZC Y l D zm_X10_init (SH.take 67) 0 (zent 1 [.ref 62]) [] z0 (zFov fN fl_32) (SH.take 63) (fun v J G => v = none ∧ z0 = J ∧ zFov fN fl_36 = G) := by
  show ZC _ _ _ _ _ _ [some _] _ _ _ _ _
  refine C_aload_n (pc := 0) dX10_init_0 rfl ?_
  refine C_obj (pc := 1) dX10_init_1 ol_X10_3 (by decide) (by decide) ?_
  refine C_aload_n (pc := 4) dX10_init_4 rfl ?_
  refine C_iconst (pc := 5) (x := nI 4) dX10_init_5 (by decide) ?_
  refine L_newa (pc := 6) (n := 63) (sh2 := (SH.take 64)) 15 4 dX10_init_6 rfl rfl rfl ac_int (by decide) (by decide) rfl (fun _ => rfl) (by decide +kernel) rfl rfl rfl ?_
  refine L_putr (pc := 8) (l1 := fl_33) 10 0 dX10_init_8 fl_X10_9 (n := 5) rfl fr_10_0 (Or.inr ⟨rfl, rfl, zT_in 214 (by decide +kernel) (by decide +kernel)⟩) (by decide) (fun q => rfl) (fun q => rfl) rfl ?_
  refine C_aload_n (pc := 11) dX10_init_11 rfl ?_
  refine C_iconst (pc := 12) (x := nI 4) dX10_init_12 (by decide) ?_
  refine L_newa (pc := 13) (n := 64) (sh2 := (SH.take 65)) 15 4 dX10_init_13 rfl rfl rfl ac_int (by decide) (by decide) rfl (fun _ => rfl) (by decide +kernel) rfl rfl rfl ?_
  refine L_putr (pc := 15) (l1 := fl_34) 10 1 dX10_init_15 fl_X10_15 (n := 5) rfl fr_10_1 (Or.inr ⟨rfl, rfl, zT_in 216 (by decide +kernel) (by decide +kernel)⟩) (by decide) (fun q => rfl) (fun q => rfl) rfl ?_
  refine C_aload_n (pc := 18) dX10_init_18 rfl ?_
  refine C_iconst (pc := 19) (x := nI 4) dX10_init_19 (by decide) ?_
  refine L_newa (pc := 20) (n := 65) (sh2 := (SH.take 66)) 15 4 dX10_init_20 rfl rfl rfl ac_int (by decide) (by decide) rfl (fun _ => rfl) (by decide +kernel) rfl rfl rfl ?_
  refine L_putr (pc := 22) (l1 := fl_35) 10 2 dX10_init_22 fl_X10_18 (n := 5) rfl fr_10_2 (Or.inr ⟨rfl, rfl, zT_in 219 (by decide +kernel) (by decide +kernel)⟩) (by decide) (fun q => rfl) (fun q => rfl) rfl ?_
  refine C_aload_n (pc := 25) dX10_init_25 rfl ?_
  refine C_iconst (pc := 26) (x := nI 4) dX10_init_26 (by decide) ?_
  refine L_newa (pc := 27) (n := 66) (sh2 := (SH.take 67)) 15 4 dX10_init_27 rfl rfl rfl ac_int (by decide) (by decide) rfl (fun _ => rfl) (by decide +kernel) rfl rfl rfl ?_
  refine L_putr (pc := 29) (l1 := fl_36) 10 3 dX10_init_29 fl_X10_21 (n := 5) rfl fr_10_3 (Or.inr ⟨rfl, rfl, zT_in 222 (by decide +kernel) (by decide +kernel)⟩) (by decide) (fun q => rfl) (fun q => rfl) rfl ?_
  exact C_ret (pc := 32) dX10_init_32 ⟨rfl, rfl, rfl⟩
set_option maxRecDepth 20000 in
theorem y_X8_36_37 {Y : YP} {l : Launch} {D : va_G} (hYo : zYo Y) : ZC Y l D zm_X8_init (SH.take 67) 0 (zent 1 [.ref 36]) [] z0 (zFov fN fl_21) (SH.take 37) (fun v J G => v = none ∧ z0 = J ∧ zFov fN fl_37 = G) := by
  show ZC _ _ _ _ _ _ [some _] _ _ _ _ _
  refine C_aload_n (pc := 0) dX8_init_0 rfl ?_
  refine C_obj (pc := 1) dX8_init_1 ol_X8_3 (by decide) (by decide) ?_
  refine C_aload_n (pc := 4) dX8_init_4 rfl ?_
  refine L_new (pc := 5) (n := 37) (sh2 := (SH.take 38)) 6 dX8_init_5 (by decide) kl_X8_9 in_X6 it_X6 rfl (fun _ => rfl) rfl (fun _ => rfl) (by decide +kernel) rfl rfl rfl ?_
  refine C_dup (pc := 8) dX8_init_8 rfl ?_
  obtain ⟨_, _, _, k9, rfl, rfl, rfl⟩ := y_X6_37_38 (Y := Y) (l := l) (D := D) hYo
  refine C_callI (pc := 9) (S := [.ref 37, .ref 36]) (As := []) hYo k9 dX8_init_9 ok_X6_init ml_X8_11 ii_X6_init ⟨by decide, by decide⟩ rfl ⟨rfl, by decide⟩ (Nat.le_of_ble_eq_true rfl) (zNew_of (n := 38) rfl (by decide +kernel) rfl rfl) ?_
  refine L_putr (pc := 12) (l1 := fl_28) 8 0 dX8_init_12 fl_X8_12 (n := 6) rfl fr_8_0 (Or.inr ⟨rfl, rfl, zT_in 241 (by decide +kernel) (by decide +kernel)⟩) (by decide) (fun q => rfl) (fun q => rfl) rfl ?_
  refine C_aload_n (pc := 15) dX8_init_15 rfl ?_
  refine L_new (pc := 16) (n := 58) (sh2 := (SH.take 59)) 5 dX8_init_16 (by decide) kl_X8_18 in_X5 it_X5 rfl (fun _ => rfl) rfl (fun _ => rfl) (by decide +kernel) rfl rfl rfl ?_
  refine C_dup (pc := 19) dX8_init_19 rfl ?_
  obtain ⟨_, _, _, k20, rfl, rfl, rfl⟩ := y_X5_58_59 (Y := Y) (l := l) (D := D) hYo
  refine C_callI (pc := 20) (S := [.ref 58, .ref 36]) (As := []) hYo k20 dX8_init_20 ok_X5_init ml_X8_20 ii_X5_init ⟨by decide, by decide⟩ rfl ⟨rfl, by decide⟩ (Nat.le_of_ble_eq_true rfl) (zNew_of (n := 59) rfl (by decide +kernel) rfl rfl) ?_
  refine L_putr (pc := 23) (l1 := fl_32) 8 1 dX8_init_23 fl_X8_21 (n := 6) rfl fr_8_1 (Or.inr ⟨rfl, rfl, zT_in 245 (by decide +kernel) (by decide +kernel)⟩) (by decide) (fun q => rfl) (fun q => rfl) rfl ?_
  refine C_aload_n (pc := 26) dX8_init_26 rfl ?_
  refine L_new (pc := 27) (n := 62) (sh2 := (SH.take 63)) 10 dX8_init_27 (by decide) kl_X8_25 in_X10 it_X10 rfl (fun _ => rfl) rfl (fun _ => rfl) (by decide +kernel) rfl rfl rfl ?_
  refine C_dup (pc := 30) dX8_init_30 rfl ?_
  obtain ⟨_, _, _, k31, rfl, rfl, rfl⟩ := y_X10_62_63 (Y := Y) (l := l) (D := D) hYo
  refine C_callI (pc := 31) (S := [.ref 62, .ref 36]) (As := []) hYo k31 dX8_init_31 ok_X10_init ml_X8_27 ii_X10_init ⟨by decide, by decide⟩ rfl ⟨rfl, by decide⟩ (Nat.le_of_ble_eq_true rfl) (zNew_of (n := 63) rfl (by decide +kernel) rfl rfl) ?_
  refine L_putr (pc := 34) (l1 := fl_37) 8 2 dX8_init_34 fl_X8_28 (n := 6) rfl fr_8_2 (Or.inr ⟨rfl, rfl, zT_in 250 (by decide +kernel) (by decide +kernel)⟩) (by decide) (fun q => rfl) (fun q => rfl) rfl ?_
  exact C_ret (pc := 37) dX8_init_37 ⟨rfl, rfl, rfl⟩
set_option maxRecDepth 20000 in
theorem y_X9_67_68 {Y : YP} {l : Launch} {D : va_G} (hYo : zYo Y) : ZC Y l D zm_X9_init (SH.take 70) 0 (zent 1 [.ref 67]) [] z0 (zFov fN fl_38) (SH.take 68) (fun v J G => v = none ∧ z0 = J ∧ zFov fN fl_40 = G) := by
  show ZC _ _ _ _ _ _ [some _] _ _ _ _ _
  refine C_aload_n (pc := 0) dX9_init_0 rfl ?_
  refine C_obj (pc := 1) dX9_init_1 ol_X9_3 (by decide) (by decide) ?_
  refine C_aload_n (pc := 4) dX9_init_4 rfl ?_
  refine C_bipush (pc := 5) (x := nI 31) dX9_init_5 (by decide) ?_
  refine L_newa (pc := 7) (n := 68) (sh2 := (SH.take 69)) 15 31 dX9_init_7 rfl rfl rfl ac_int (by decide) (by decide) rfl (fun _ => rfl) (by decide +kernel) rfl rfl rfl ?_
  refine L_putr (pc := 9) (l1 := fl_39) 9 0 dX9_init_9 fl_X9_9 (n := 7) rfl fr_9_0 (Or.inr ⟨rfl, rfl, zT_in 283 (by decide +kernel) (by decide +kernel)⟩) (by decide) (fun q => rfl) (fun q => rfl) rfl ?_
  refine C_aload_n (pc := 12) dX9_init_12 rfl ?_
  refine C_bipush (pc := 13) (x := nI 30) dX9_init_13 (by decide) ?_
  refine L_newa (pc := 15) (n := 69) (sh2 := (SH.take 70)) 16 30 dX9_init_15 rfl rfl rfl ac_boolean (by decide) (by decide) rfl (fun _ => rfl) (by decide +kernel) rfl rfl rfl ?_
  refine L_putr (pc := 17) (l1 := fl_40) 9 1 dX9_init_17 fl_X9_15 (n := 7) rfl fr_9_1 (Or.inr ⟨rfl, rfl, zT_in 284 (by decide +kernel) (by decide +kernel)⟩) (by decide) (fun q => rfl) (fun q => rfl) rfl ?_
  exact C_ret (pc := 20) dX9_init_20 ⟨rfl, rfl, rfl⟩
set_option maxRecDepth 20000 in
theorem y_X5_70_71 {Y : YP} {l : Launch} {D : va_G} (hYo : zYo Y) : ZC Y l D zm_X5_init (SH.take 74) 0 (zent 1 [.ref 70]) [] z0 (zFov fN fl_41) (SH.take 71) (fun v J G => v = none ∧ z0 = J ∧ zFov fN fl_44 = G) := by
  show ZC _ _ _ _ _ _ [some _] _ _ _ _ _
  refine C_aload_n (pc := 0) dX5_init_0 rfl ?_
  refine C_obj (pc := 1) dX5_init_1 ol_X5_3 (by decide) (by decide) ?_
  refine C_aload_n (pc := 4) dX5_init_4 rfl ?_
  refine C_bipush (pc := 5) (x := nI 9) dX5_init_5 (by decide) ?_
  refine L_newa (pc := 7) (n := 71) (sh2 := (SH.take 72)) 15 9 dX5_init_7 rfl rfl rfl ac_int (by decide) (by decide) rfl (fun _ => rfl) (by decide +kernel) rfl rfl rfl ?_
  refine L_putr (pc := 9) (l1 := fl_42) 5 0 dX5_init_9 fl_X5_11 (n := 4) rfl fr_5_0 (Or.inr ⟨rfl, rfl, zT_in 189 (by decide +kernel) (by decide +kernel)⟩) (by decide) (fun q => rfl) (fun q => rfl) rfl ?_
  refine C_aload_n (pc := 12) dX5_init_12 rfl ?_
  refine C_bipush (pc := 13) (x := nI 9) dX5_init_13 (by decide) ?_
  refine L_newa (pc := 15) (n := 72) (sh2 := (SH.take 73)) 15 9 dX5_init_15 rfl rfl rfl ac_int (by decide) (by decide) rfl (fun _ => rfl) (by decide +kernel) rfl rfl rfl ?_
  refine L_putr (pc := 17) (l1 := fl_43) 5 1 dX5_init_17 fl_X5_15 (n := 4) rfl fr_5_1 (Or.inr ⟨rfl, rfl, zT_in 191 (by decide +kernel) (by decide +kernel)⟩) (by decide) (fun q => rfl) (fun q => rfl) rfl ?_
  refine C_aload_n (pc := 20) dX5_init_20 rfl ?_
  refine C_bipush (pc := 21) (x := nI 9) dX5_init_21 (by decide) ?_
  refine L_newa (pc := 23) (n := 73) (sh2 := (SH.take 74)) 15 9 dX5_init_23 rfl rfl rfl ac_int (by decide) (by decide) rfl (fun _ => rfl) (by decide +kernel) rfl rfl rfl ?_
  refine L_putr (pc := 25) (l1 := fl_44) 5 2 dX5_init_25 fl_X5_18 (n := 4) rfl fr_5_2 (Or.inr ⟨rfl, rfl, zT_in 193 (by decide +kernel) (by decide +kernel)⟩) (by decide) (fun q => rfl) (fun q => rfl) rfl ?_
  exact C_ret (pc := 28) dX5_init_28 ⟨rfl, rfl, rfl⟩
set_option maxRecDepth 20000 in
theorem y_X0_74_75 {Y : YP} {l : Launch} {D : va_G} (hYo : zYo Y) : ZC Y l D zm_X0_init (SH.take 80) 0 (zent 1 [.ref 74]) [] z0 (zFov fN fl_45) (SH.take 75) (fun v J G => v = none ∧ z0 = J ∧ zFov fN fl_50 = G) := by
  show ZC _ _ _ _ _ _ [some _] _ _ _ _ _
  refine C_aload_n (pc := 0) dX0_init_0 rfl ?_
  refine C_obj (pc := 1) dX0_init_1 ol_X0_3 (by decide) (by decide) ?_
  refine C_aload_n (pc := 4) dX0_init_4 rfl ?_
  refine C_bipush (pc := 5) (x := nI 8) dX0_init_5 (by decide) ?_
  refine L_newa (pc := 7) (n := 75) (sh2 := (SH.take 76)) 15 8 dX0_init_7 rfl rfl rfl ac_int (by decide) (by decide) rfl (fun _ => rfl) (by decide +kernel) rfl rfl rfl ?_
  refine L_putr (pc := 9) (l1 := fl_46) 0 0 dX0_init_9 fl_X0_9 (n := 7) rfl fr_0_0 (Or.inr ⟨rfl, rfl, zT_in 319 (by decide +kernel) (by decide +kernel)⟩) (by decide) (fun q => rfl) (fun q => rfl) rfl ?_
  refine C_aload_n (pc := 12) dX0_init_12 rfl ?_
  refine C_bipush (pc := 13) (x := nI 8) dX0_init_13 (by decide) ?_
  refine L_newa (pc := 15) (n := 76) (sh2 := (SH.take 77)) 15 8 dX0_init_15 rfl rfl rfl ac_int (by decide) (by decide) rfl (fun _ => rfl) (by decide +kernel) rfl rfl rfl ?_
  refine L_putr (pc := 17) (l1 := fl_47) 0 1 dX0_init_17 fl_X0_15 (n := 7) rfl fr_0_1 (Or.inr ⟨rfl, rfl, zT_in 320 (by decide +kernel) (by decide +kernel)⟩) (by decide) (fun q => rfl) (fun q => rfl) rfl ?_
  refine C_aload_n (pc := 20) dX0_init_20 rfl ?_
  refine C_bipush (pc := 21) (x := nI 8) dX0_init_21 (by decide) ?_
  refine L_newa (pc := 23) (n := 77) (sh2 := (SH.take 78)) 15 8 dX0_init_23 rfl rfl rfl ac_int (by decide) (by decide) rfl (fun _ => rfl) (by decide +kernel) rfl rfl rfl ?_
  refine L_putr (pc := 25) (l1 := fl_48) 0 2 dX0_init_25 fl_X0_18 (n := 7) rfl fr_0_2 (Or.inr ⟨rfl, rfl, zT_in 321 (by decide +kernel) (by decide +kernel)⟩) (by decide) (fun q => rfl) (fun q => rfl) rfl ?_
  refine C_aload_n (pc := 28) dX0_init_28 rfl ?_
  refine C_bipush (pc := 29) (x := nI 8) dX0_init_29 (by decide) ?_
  refine L_newa (pc := 31) (n := 78) (sh2 := (SH.take 79)) 15 8 dX0_init_31 rfl rfl rfl ac_int (by decide) (by decide) rfl (fun _ => rfl) (by decide +kernel) rfl rfl rfl ?_
  refine L_putr (pc := 33) (l1 := fl_49) 0 3 dX0_init_33 fl_X0_21 (n := 7) rfl fr_0_3 (Or.inr ⟨rfl, rfl, zT_in 322 (by decide +kernel) (by decide +kernel)⟩) (by decide) (fun q => rfl) (fun q => rfl) rfl ?_
  refine C_aload_n (pc := 36) dX0_init_36 rfl ?_
  refine C_bipush (pc := 37) (x := nI 8) dX0_init_37 (by decide) ?_
  refine L_newa (pc := 39) (n := 79) (sh2 := (SH.take 80)) 15 8 dX0_init_39 rfl rfl rfl ac_int (by decide) (by decide) rfl (fun _ => rfl) (by decide +kernel) rfl rfl rfl ?_
  refine L_putr (pc := 41) (l1 := fl_50) 0 4 dX0_init_41 fl_X0_24 (n := 7) rfl fr_0_4 (Or.inr ⟨rfl, rfl, zT_in 323 (by decide +kernel) (by decide +kernel)⟩) (by decide) (fun q => rfl) (fun q => rfl) rfl ?_
  exact C_ret (pc := 44) dX0_init_44 ⟨rfl, rfl, rfl⟩
set_option maxRecDepth 20000 in
theorem y_X5_85_86 {Y : YP} {l : Launch} {D : va_G} (hYo : zYo Y) : ZC Y l D zm_X5_init (SH.take 89) 0 (zent 1 [.ref 85]) [] z0 (zFov fN fl_54) (SH.take 86) (fun v J G => v = none ∧ z0 = J ∧ zFov fN fl_57 = G) := by
  show ZC _ _ _ _ _ _ [some _] _ _ _ _ _
  refine C_aload_n (pc := 0) dX5_init_0 rfl ?_
  refine C_obj (pc := 1) dX5_init_1 ol_X5_3 (by decide) (by decide) ?_
  refine C_aload_n (pc := 4) dX5_init_4 rfl ?_
  refine C_bipush (pc := 5) (x := nI 9) dX5_init_5 (by decide) ?_
  refine L_newa (pc := 7) (n := 86) (sh2 := (SH.take 87)) 15 9 dX5_init_7 rfl rfl rfl ac_int (by decide) (by decide) rfl (fun _ => rfl) (by decide +kernel) rfl rfl rfl ?_
  refine L_putr (pc := 9) (l1 := fl_55) 5 0 dX5_init_9 fl_X5_11 (n := 4) rfl fr_5_0 (Or.inr ⟨rfl, rfl, zT_in 189 (by decide +kernel) (by decide +kernel)⟩) (by decide) (fun q => rfl) (fun q => rfl) rfl ?_
  refine C_aload_n (pc := 12) dX5_init_12 rfl ?_
  refine C_bipush (pc := 13) (x := nI 9) dX5_init_13 (by decide) ?_
  refine L_newa (pc := 15) (n := 87) (sh2 := (SH.take 88)) 15 9 dX5_init_15 rfl rfl rfl ac_int (by decide) (by decide) rfl (fun _ => rfl) (by decide +kernel) rfl rfl rfl ?_
  refine L_putr (pc := 17) (l1 := fl_56) 5 1 dX5_init_17 fl_X5_15 (n := 4) rfl fr_5_1 (Or.inr ⟨rfl, rfl, zT_in 191 (by decide +kernel) (by decide +kernel)⟩) (by decide) (fun q => rfl) (fun q => rfl) rfl ?_
  refine C_aload_n (pc := 20) dX5_init_20 rfl ?_
  refine C_bipush (pc := 21) (x := nI 9) dX5_init_21 (by decide) ?_
  refine L_newa (pc := 23) (n := 88) (sh2 := (SH.take 89)) 15 9 dX5_init_23 rfl rfl rfl ac_int (by decide) (by decide) rfl (fun _ => rfl) (by decide +kernel) rfl rfl rfl ?_
  refine L_putr (pc := 25) (l1 := fl_57) 5 2 dX5_init_25 fl_X5_18 (n := 4) rfl fr_5_2 (Or.inr ⟨rfl, rfl, zT_in 193 (by decide +kernel) (by decide +kernel)⟩) (by decide) (fun q => rfl) (fun q => rfl) rfl ?_
  exact C_ret (pc := 28) dX5_init_28 ⟨rfl, rfl, rfl⟩
set_option maxRecDepth 20000 in
theorem y_X5_89_90 {Y : YP} {l : Launch} {D : va_G} (hYo : zYo Y) : ZC Y l D zm_X5_init (SH.take 93) 0 (zent 1 [.ref 89]) [] z0 (zFov fN fl_58) (SH.take 90) (fun v J G => v = none ∧ z0 = J ∧ zFov fN fl_61 = G) := by
  show ZC _ _ _ _ _ _ [some _] _ _ _ _ _
  refine C_aload_n (pc := 0) dX5_init_0 rfl ?_
  refine C_obj (pc := 1) dX5_init_1 ol_X5_3 (by decide) (by decide) ?_
  refine C_aload_n (pc := 4) dX5_init_4 rfl ?_
  refine C_bipush (pc := 5) (x := nI 9) dX5_init_5 (by decide) ?_
  refine L_newa (pc := 7) (n := 90) (sh2 := (SH.take 91)) 15 9 dX5_init_7 rfl rfl rfl ac_int (by decide) (by decide) rfl (fun _ => rfl) (by decide +kernel) rfl rfl rfl ?_
  refine L_putr (pc := 9) (l1 := fl_59) 5 0 dX5_init_9 fl_X5_11 (n := 4) rfl fr_5_0 (Or.inr ⟨rfl, rfl, zT_in 189 (by decide +kernel) (by decide +kernel)⟩) (by decide) (fun q => rfl) (fun q => rfl) rfl ?_
  refine C_aload_n (pc := 12) dX5_init_12 rfl ?_
  refine C_bipush (pc := 13) (x := nI 9) dX5_init_13 (by decide) ?_
  refine L_newa (pc := 15) (n := 91) (sh2 := (SH.take 92)) 15 9 dX5_init_15 rfl rfl rfl ac_int (by decide) (by decide) rfl (fun _ => rfl) (by decide +kernel) rfl rfl rfl ?_
  refine L_putr (pc := 17) (l1 := fl_60) 5 1 dX5_init_17 fl_X5_15 (n := 4) rfl fr_5_1 (Or.inr ⟨rfl, rfl, zT_in 191 (by decide +kernel) (by decide +kernel)⟩) (by decide) (fun q => rfl) (fun q => rfl) rfl ?_
  refine C_aload_n (pc := 20) dX5_init_20 rfl ?_
  refine C_bipush (pc := 21) (x := nI 9) dX5_init_21 (by decide) ?_
  refine L_newa (pc := 23) (n := 92) (sh2 := (SH.take 93)) 15 9 dX5_init_23 rfl rfl rfl ac_int (by decide) (by decide) rfl (fun _ => rfl) (by decide +kernel) rfl rfl rfl ?_
  refine L_putr (pc := 25) (l1 := fl_61) 5 2 dX5_init_25 fl_X5_18 (n := 4) rfl fr_5_2 (Or.inr ⟨rfl, rfl, zT_in 193 (by decide +kernel) (by decide +kernel)⟩) (by decide) (fun q => rfl) (fun q => rfl) rfl ?_
  exact C_ret (pc := 28) dX5_init_28 ⟨rfl, rfl, rfl⟩
set_option maxRecDepth 20000 in
theorem y_X3_80_81 {Y : YP} {l : Launch} {D : va_G} (hYo : zYo Y) : ZC Y l D zm_X3_init (SH.take 93) 0 (zent 2 [.ref 80]) [] z0 (zFov fN fl_51) (SH.take 81) (fun v J G => v = none ∧ z0 = J ∧ zFov fN fl_62 = G) := by
  show ZC _ _ _ _ _ _ [some _, none] _ _ _ _ _
  refine C_aload_n (pc := 0) dX3_init_0 rfl ?_
  refine C_obj (pc := 1) dX3_init_1 ol_X3_3 (by decide) (by decide) ?_
  refine C_aload_n (pc := 4) dX3_init_4 rfl ?_
  refine C_iconst (pc := 5) (x := nI 2) dX3_init_5 (by decide) ?_
  refine L_anew (pc := 6) (n := 81) (sh2 := (SH.take 82)) 2 dX3_init_6 kl_X3_9 ao_signs (by decide) rfl rfl (fun _ => rfl) (by decide +kernel) rfl rfl rfl ?_
  refine L_putr (pc := 9) (l1 := fl_52) 3 0 dX3_init_9 fl_X3_11 (n := 3) rfl fr_3_0 (Or.inr ⟨rfl, rfl, zT_in 352 (by decide +kernel) (by decide +kernel)⟩) (by decide) (fun q => rfl) (fun q => rfl) rfl ?_
  refine C_aload_n (pc := 12) dX3_init_12 rfl ?_
  refine C_iconst (pc := 13) (x := nI 2) dX3_init_13 (by decide) ?_
  refine C_iconst (pc := 14) (x := nI 4) dX3_init_14 (by decide) ?_
  refine L_multi (pc := 15) (n := 82) (sh2 := (SH.take 85)) (l1 := fl_53) 2 4 dX3_init_15 kl_X3_17 ao_int ac_int (by decide) (by decide) rfl (fun _ _ _ => rfl) rfl (fun _ => rfl) (by decide +kernel) rfl rfl rfl rfl ?_
  refine L_putr (pc := 19) (l1 := fl_54) 3 1 dX3_init_19 fl_X3_19 (n := 3) rfl fr_3_1 (Or.inr ⟨rfl, rfl, zT_in 353 (by decide +kernel) (by decide +kernel)⟩) (by decide) (fun q => rfl) (fun q => rfl) rfl ?_
  refine C_iconst (pc := 22) (x := nI 0) dX3_init_22 (by decide) ?_
  refine C_istore_n (pc := 23) dX3_init_23 (by decide) rfl ?_
  refine C_iload_n (pc := 24) dX3_init_24 rfl ?_
  refine C_iconst (pc := 25) (x := nI 2) dX3_init_25 (by decide) ?_
  refine C_icmp_geF (pc := 26) (tgt := 48) dX3_init_26 (by decide) (by decide) ?_
  refine C_aload_n (pc := 29) dX3_init_29 rfl ?_
  refine C_getr (pc := 30) 3 0 (b := 81) dX3_init_30 fl_X3_11 (n := 3) rfl fr_3_0 rfl ?_
  refine C_iload_n (pc := 33) dX3_init_33 rfl ?_
  refine L_new (pc := 34) (n := 85) (sh2 := (SH.take 86)) 5 dX3_init_34 (by decide) kl_X3_9 in_X5 it_X5 rfl (fun _ => rfl) rfl (fun _ => rfl) (by decide +kernel) rfl rfl rfl ?_
  refine C_dup (pc := 37) dX3_init_37 rfl ?_
  obtain ⟨_, _, _, k38, rfl, rfl, rfl⟩ := y_X5_85_86 (Y := Y) (l := l) (D := D) hYo
  refine C_callI (pc := 38) (S := [.ref 85, .int (nI 0), .ref 81]) (As := []) hYo k38 dX3_init_38 ok_X5_init ml_X3_22 ii_X5_init ⟨by decide, by decide⟩ rfl ⟨rfl, by decide⟩ (Nat.le_of_ble_eq_true rfl) (zNew_of (n := 86) rfl (by decide +kernel) rfl rfl) ?_
  refine L_aast (pc := 41) (l1 := fl_58) dX3_init_41 (n := 2) (kn := 4) rfl rfl (by decide) (by decide) rfl ?_
  refine C_iinc (pc := 42) (y := nI 1) dX3_init_42 rfl (by decide) (by decide) rfl ?_
  refine C_goto (pc := 45) (tgt := 24) dX3_init_45 (by decide) ?_
  refine C_iload_n (pc := 24) dX3_init_24 rfl ?_
  refine C_iconst (pc := 25) (x := nI 2) dX3_init_25 (by decide) ?_
  refine C_icmp_geF (pc := 26) (tgt := 48) dX3_init_26 (by decide) (by decide) ?_
  refine C_aload_n (pc := 29) dX3_init_29 rfl ?_
  refine C_getr (pc := 30) 3 0 (b := 81) dX3_init_30 fl_X3_11 (n := 3) rfl fr_3_0 rfl ?_
  refine C_iload_n (pc := 33) dX3_init_33 rfl ?_
  refine L_new (pc := 34) (n := 89) (sh2 := (SH.take 90)) 5 dX3_init_34 (by decide) kl_X3_9 in_X5 it_X5 rfl (fun _ => rfl) rfl (fun _ => rfl) (by decide +kernel) rfl rfl rfl ?_
  refine C_dup (pc := 37) dX3_init_37 rfl ?_
  obtain ⟨_, _, _, k38, rfl, rfl, rfl⟩ := y_X5_89_90 (Y := Y) (l := l) (D := D) hYo
  refine C_callI (pc := 38) (S := [.ref 89, .int (nI 1), .ref 81]) (As := []) hYo k38 dX3_init_38 ok_X5_init ml_X3_22 ii_X5_init ⟨by decide, by decide⟩ rfl ⟨rfl, by decide⟩ (Nat.le_of_ble_eq_true rfl) (zNew_of (n := 90) rfl (by decide +kernel) rfl rfl) ?_
  refine L_aast (pc := 41) (l1 := fl_62) dX3_init_41 (n := 2) (kn := 4) rfl rfl (by decide) (by decide) rfl ?_
  refine C_iinc (pc := 42) (y := nI 2) dX3_init_42 rfl (by decide) (by decide) rfl ?_
  refine C_goto (pc := 45) (tgt := 24) dX3_init_45 (by decide) ?_
  refine C_iload_n (pc := 24) dX3_init_24 rfl ?_
  refine C_iconst (pc := 25) (x := nI 2) dX3_init_25 (by decide) ?_
  refine C_icmp_geT (pc := 26) (tgt := 48) dX3_init_26 (by decide) (by decide) ?_
  exact C_ret (pc := 48) dX3_init_48 ⟨rfl, rfl, rfl⟩
set_option maxRecDepth 20000 in
theorem y_X4_93_94 {Y : YP} {l : Launch} {D : va_G} (hYo : zYo Y) : ZC Y l D zm_X4_init (SH.take 97) 0 (zent 1 [.ref 93]) [] z0 (zFov fN fl_63) (SH.take 94) (fun v J G => v = none ∧ z0 = J ∧ zFov fN fl_66 = G) := by
  show ZC _ _ _ _ _ _ [some _] _ _ _ _ _
  refine C_aload_n (pc := 0) dX4_init_0 rfl ?_
  refine C_obj (pc := 1) dX4_init_1 ol_X4_3 (by decide) (by decide) ?_
  refine C_aload_n (pc := 4) dX4_init_4 rfl ?_
  refine C_bipush (pc := 5) (x := nI 8) dX4_init_5 (by decide) ?_
  refine L_newa (pc := 7) (n := 94) (sh2 := (SH.take 95)) 15 8 dX4_init_7 rfl rfl rfl ac_int (by decide) (by decide) rfl (fun _ => rfl) (by decide +kernel) rfl rfl rfl ?_
  refine L_putr (pc := 9) (l1 := fl_64) 4 0 dX4_init_9 fl_X4_9 (n := 4) rfl fr_4_0 (Or.inr ⟨rfl, rfl, zT_in 369 (by decide +kernel) (by decide +kernel)⟩) (by decide) (fun q => rfl) (fun q => rfl) rfl ?_
  refine C_aload_n (pc := 12) dX4_init_12 rfl ?_
  refine C_bipush (pc := 13) (x := nI 8) dX4_init_13 (by decide) ?_
  refine L_newa (pc := 15) (n := 95) (sh2 := (SH.take 96)) 15 8 dX4_init_15 rfl rfl rfl ac_int (by decide) (by decide) rfl (fun _ => rfl) (by decide +kernel) rfl rfl rfl ?_
  refine L_putr (pc := 17) (l1 := fl_65) 4 1 dX4_init_17 fl_X4_15 (n := 4) rfl fr_4_1 (Or.inr ⟨rfl, rfl, zT_in 370 (by decide +kernel) (by decide +kernel)⟩) (by decide) (fun q => rfl) (fun q => rfl) rfl ?_
  refine C_aload_n (pc := 20) dX4_init_20 rfl ?_
  refine C_bipush (pc := 21) (x := nI 8) dX4_init_21 (by decide) ?_
  refine L_newa (pc := 23) (n := 96) (sh2 := (SH.take 97)) 15 8 dX4_init_23 rfl rfl rfl ac_int (by decide) (by decide) rfl (fun _ => rfl) (by decide +kernel) rfl rfl rfl ?_
  refine L_putr (pc := 25) (l1 := fl_66) 4 2 dX4_init_25 fl_X4_18 (n := 4) rfl fr_4_2 (Or.inr ⟨rfl, rfl, zT_in 371 (by decide +kernel) (by decide +kernel)⟩) (by decide) (fun q => rfl) (fun q => rfl) rfl ?_
  exact C_ret (pc := 28) dX4_init_28 ⟨rfl, rfl, rfl⟩
set_option maxRecDepth 20000 in
theorem y_X1_97_98 {Y : YP} {l : Launch} {D : va_G} (hYo : zYo Y) : ZC Y l D zm_X1_init (SH.take 98) 0 (zent 1 [.ref 97]) [] z0 (zFov fN fl_67) (SH.take 98) (fun v J G => v = none ∧ z0 = J ∧ zFov fN fl_67 = G) := by
  show ZC _ _ _ _ _ _ [some _] _ _ _ _ _
  refine C_aload_n (pc := 0) dX1_init_0 rfl ?_
  refine C_obj (pc := 1) dX1_init_1 ol_X1_3 (by decide) (by decide) ?_
  exact C_ret (pc := 4) dX1_init_4 ⟨rfl, rfl, rfl⟩
