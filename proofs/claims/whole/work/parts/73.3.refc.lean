/-! the reference's constructor -/
def rf_0 : List (Nat × Nat × Nat) := []
def rf_1 : List (Nat × Nat × Nat) := (109, 0, 110) :: rf_0
def rf_2 : List (Nat × Nat × Nat) := (109, 2, 111) :: rf_1
def rf_3 : List (Nat × Nat × Nat) := (109, 3, 112) :: rf_2
def rf_4 : List (Nat × Nat × Nat) := (109, 4, 113) :: rf_3
def rf_5 : List (Nat × Nat × Nat) := (109, 5, 114) :: rf_4
def rf_6 : List (Nat × Nat × Nat) := (109, 6, 115) :: rf_5
def rf_7 : List (Nat × Nat × Nat) := (109, 7, 116) :: rf_6
def rf_8 : List (Nat × Nat × Nat) := (109, 8, 117) :: rf_7
def rf_9 : List (Nat × Nat × Nat) := (109, 9, 118) :: rf_8
def rf_10 : List (Nat × Nat × Nat) := (109, 10, 119) :: rf_9
def rf_11 : List (Nat × Nat × Nat) := (109, 11, 120) :: rf_10
def rf_12 : List (Nat × Nat × Nat) := (109, 12, 121) :: rf_11
def rf_13 : List (Nat × Nat × Nat) := (109, 17, 122) :: rf_12
def rf_14 : List (Nat × Nat × Nat) := (109, 20, 123) :: rf_13
def rf_15 : List (Nat × Nat × Nat) := (109, 21, 124) :: rf_14
def rf_16 : List (Nat × Nat × Nat) := (109, 22, 125) :: rf_15
def rf_17 : List (Nat × Nat × Nat) := (109, 28, 126) :: rf_16
def rf_18 : List (Nat × Nat × Nat) := (109, 29, 127) :: rf_17
def rf_19 : List (Nat × Nat × Nat) := (109, 30, 128) :: rf_18
def rf_20 : List (Nat × Nat × Nat) := (109, 31, 129) :: rf_19
def rf_21 : List (Nat × Nat × Nat) := (109, 32, 130) :: rf_20
theorem zF36a : rf_21.all (fun q => decide (zF 36 q.1 q.2.1 = some q.2.2)) = true := by decide +kernel
theorem zF36b : (List.range (zFt 36 109).length).all (fun k => (zF 36 109 k).isNone || (rf_21.find? (fun q => q.1 == 109 && q.2.1 == k)).isSome) = true := by decide +kernel
theorem zFt_hi {t a : Nat} (h : 109 < a) : zFt t a = [] := by
  unfold zFt
  repeat rw [if_neg (by omega)]
theorem zF36 : zFov (zF_o 36) rf_21 = zF 36 := by
  funext a k
  unfold zFov
  cases h : rf_21.find? (fun q => q.1 == a && q.2.1 == k) with
  | some q =>
    have h1 := List.all_eq_true.mp zF36a q (List.mem_of_find?_eq_some h)
    have h2 : (q.1 == a && q.2.1 == k) = true := by have := List.find?_some h; exact this
    simp only [Bool.and_eq_true, beq_iff_eq] at h2
    simp only [decide_eq_true_eq] at h1
    rw [h2.1, h2.2] at h1
    exact h1.symm
  | none =>
    show zF_o 36 a k = zF 36 a k
    unfold zF_o
    by_cases ha : a < 109
    · rw [if_pos ha]
    · rw [if_neg ha]
      by_cases ha2 : a = 109
      · subst ha2
        cases h3 : zF 36 109 k with
        | none => rfl
        | some b =>
          exfalso
          have hk : k < (zFt 36 109).length := by
            by_cases hk : k < (zFt 36 109).length
            · exact hk
            · unfold zF at h3
              rw [List.getD_eq_getElem?_getD, List.getElem?_eq_none (by omega)] at h3
              cases h3
          have h5 := List.all_eq_true.mp zF36b k (List.mem_range.mpr hk)
          rw [h3, h] at h5
          cases h5
      · unfold zF
        rw [zFt_hi (by omega)]
        rfl
def RefB (s : Nat → Nat → Nat) (I : AI) : Prop := ∀ a k, 109 ≤ a → I a k = nI (s a k)
theorem RefB.o {B : Nat → Nat → Nat} {l : List (Nat × Nat × Nat)} {I : AI} (h : RefB (ovN B l) I) (a k x : Nat) : RefB (ovN B ((a, k, x) :: l)) (zu I a k (nI x)) := by
  rw [← ovN_put]
  intro b j hb
  unfold zuN zu va_up upd
  by_cases e1 : b = a
  · subst e1
    rw [if_pos rfl, if_pos rfl]
    by_cases e2 : j = k
    · rw [if_pos e2, if_pos e2]
    · rw [if_neg e2, if_neg e2]; exact h b j hb
  · rw [if_neg e1, if_neg e1]; exact h b j hb
theorem RefB.at {s : Nat → Nat → Nat} {I : AI} (h : RefB s I) (a k m : Nat) (ha : 109 ≤ a) (hm : s a k = m) : I a k = nI m := by rw [h a k ha, hm]
set_option maxRecDepth 20000 in
theorem y_ref0 {Y : YP} {l : Launch} {D : va_G} {I : AI} {Post : Option Int32 → AI → AR → Prop} (hz : ∀ a k, 109 ≤ a → I a k = 0) (kk : ZC Y l D zm_X12_init SH 170 [some (.ref 109)] [] I (zF 36) SH Post) : ZC Y l D zm_X12_init SH 0 (zent 1 [.ref 109]) [] I (zF_o 36) (SH.take 110) Post := by
  show ZC _ _ _ _ _ _ [some _] _ _ _ _ _
  have h0 : zF_o 36 = zFov (zF_o 36) rf_0 := rfl
  rw [h0]
  refine C_aload_n (pc := 0) dX12_init_0 rfl ?_
  refine C_obj (pc := 1) dX12_init_1 ol_X12_1 (by decide) (by decide) ?_
  refine C_aload_n (pc := 4) dX12_init_4 rfl ?_
  refine C_sipush (pc := 5) (x := nI 200) dX12_init_5 (by decide) ?_
  refine L_newa (pc := 8) (n := 110) (sh2 := (SH.take 111)) 13 200 dX12_init_8 rfl rfl rfl ac_byte (by decide) (by decide) rfl (fun k => hz 110 k (by decide)) (by decide +kernel) rfl rfl rfl ?_
  refine L_putr (pc := 10) (l1 := rf_1) 12 0 dX12_init_10 fl_X12_7 (n := 34) rfl fr_12_0 (Or.inr ⟨rfl, rfl, zT_in 893 (by decide +kernel) (by decide +kernel)⟩) (by decide) (fun q => rfl) (fun q => rfl) rfl ?_
  refine C_aload_n (pc := 13) dX12_init_13 rfl ?_
  refine C_iconst (pc := 14) (x := nI 2) dX12_init_14 (by decide) ?_
  refine L_newa (pc := 15) (n := 111) (sh2 := (SH.take 112)) 15 2 dX12_init_15 rfl rfl rfl ac_int (by decide) (by decide) rfl (fun k => hz 111 k (by decide)) (by decide +kernel) rfl rfl rfl ?_
  refine L_putr (pc := 17) (l1 := rf_2) 12 2 dX12_init_17 fl_X12_13 (n := 34) rfl fr_12_2 (Or.inr ⟨rfl, rfl, zT_in 895 (by decide +kernel) (by decide +kernel)⟩) (by decide) (fun q => rfl) (fun q => rfl) rfl ?_
  refine C_aload_n (pc := 20) dX12_init_20 rfl ?_
  refine C_iconst (pc := 21) (x := nI 2) dX12_init_21 (by decide) ?_
  refine L_newa (pc := 22) (n := 112) (sh2 := (SH.take 113)) 15 2 dX12_init_22 rfl rfl rfl ac_int (by decide) (by decide) rfl (fun k => hz 112 k (by decide)) (by decide +kernel) rfl rfl rfl ?_
  refine L_putr (pc := 24) (l1 := rf_3) 12 3 dX12_init_24 fl_X12_17 (n := 34) rfl fr_12_3 (Or.inr ⟨rfl, rfl, zT_in 896 (by decide +kernel) (by decide +kernel)⟩) (by decide) (fun q => rfl) (fun q => rfl) rfl ?_
  refine C_aload_n (pc := 27) dX12_init_27 rfl ?_
  refine C_bipush (pc := 28) (x := nI 24) dX12_init_28 (by decide) ?_
  refine L_newa (pc := 30) (n := 113) (sh2 := (SH.take 114)) 15 24 dX12_init_30 rfl rfl rfl ac_int (by decide) (by decide) rfl (fun k => hz 113 k (by decide)) (by decide +kernel) rfl rfl rfl ?_
  refine L_putr (pc := 32) (l1 := rf_4) 12 4 dX12_init_32 fl_X12_20 (n := 34) rfl fr_12_4 (Or.inr ⟨rfl, rfl, zT_in 897 (by decide +kernel) (by decide +kernel)⟩) (by decide) (fun q => rfl) (fun q => rfl) rfl ?_
  refine C_aload_n (pc := 35) dX12_init_35 rfl ?_
  refine C_bipush (pc := 36) (x := nI 24) dX12_init_36 (by decide) ?_
  refine L_newa (pc := 38) (n := 114) (sh2 := (SH.take 115)) 15 24 dX12_init_38 rfl rfl rfl ac_int (by decide) (by decide) rfl (fun k => hz 114 k (by decide)) (by decide +kernel) rfl rfl rfl ?_
  refine L_putr (pc := 40) (l1 := rf_5) 12 5 dX12_init_40 fl_X12_23 (n := 34) rfl fr_12_5 (Or.inr ⟨rfl, rfl, zT_in 898 (by decide +kernel) (by decide +kernel)⟩) (by decide) (fun q => rfl) (fun q => rfl) rfl ?_
  refine C_aload_n (pc := 43) dX12_init_43 rfl ?_
  refine C_bipush (pc := 44) (x := nI 24) dX12_init_44 (by decide) ?_
  refine L_newa (pc := 46) (n := 115) (sh2 := (SH.take 116)) 15 24 dX12_init_46 rfl rfl rfl ac_int (by decide) (by decide) rfl (fun k => hz 115 k (by decide)) (by decide +kernel) rfl rfl rfl ?_
  refine L_putr (pc := 48) (l1 := rf_6) 12 6 dX12_init_48 fl_X12_26 (n := 34) rfl fr_12_6 (Or.inr ⟨rfl, rfl, zT_in 899 (by decide +kernel) (by decide +kernel)⟩) (by decide) (fun q => rfl) (fun q => rfl) rfl ?_
  refine C_aload_n (pc := 51) dX12_init_51 rfl ?_
  refine C_iconst (pc := 52) (x := nI 2) dX12_init_52 (by decide) ?_
  refine L_newa (pc := 53) (n := 116) (sh2 := (SH.take 117)) 15 2 dX12_init_53 rfl rfl rfl ac_int (by decide) (by decide) rfl (fun k => hz 116 k (by decide)) (by decide +kernel) rfl rfl rfl ?_
  refine L_putr (pc := 55) (l1 := rf_7) 12 7 dX12_init_55 fl_X12_29 (n := 34) rfl fr_12_7 (Or.inr ⟨rfl, rfl, zT_in 900 (by decide +kernel) (by decide +kernel)⟩) (by decide) (fun q => rfl) (fun q => rfl) rfl ?_
  refine C_aload_n (pc := 58) dX12_init_58 rfl ?_
  refine C_bipush (pc := 59) (x := nI 8) dX12_init_59 (by decide) ?_
  refine L_newa (pc := 61) (n := 117) (sh2 := (SH.take 118)) 15 8 dX12_init_61 rfl rfl rfl ac_int (by decide) (by decide) rfl (fun k => hz 117 k (by decide)) (by decide +kernel) rfl rfl rfl ?_
  refine L_putr (pc := 63) (l1 := rf_8) 12 8 dX12_init_63 fl_X12_32 (n := 34) rfl fr_12_8 (Or.inr ⟨rfl, rfl, zT_in 901 (by decide +kernel) (by decide +kernel)⟩) (by decide) (fun q => rfl) (fun q => rfl) rfl ?_
  refine C_aload_n (pc := 66) dX12_init_66 rfl ?_
  refine C_bipush (pc := 67) (x := nI 8) dX12_init_67 (by decide) ?_
  refine L_newa (pc := 69) (n := 118) (sh2 := (SH.take 119)) 15 8 dX12_init_69 rfl rfl rfl ac_int (by decide) (by decide) rfl (fun k => hz 118 k (by decide)) (by decide +kernel) rfl rfl rfl ?_
  refine L_putr (pc := 71) (l1 := rf_9) 12 9 dX12_init_71 fl_X12_35 (n := 34) rfl fr_12_9 (Or.inr ⟨rfl, rfl, zT_in 902 (by decide +kernel) (by decide +kernel)⟩) (by decide) (fun q => rfl) (fun q => rfl) rfl ?_
  refine C_aload_n (pc := 74) dX12_init_74 rfl ?_
  refine C_bipush (pc := 75) (x := nI 8) dX12_init_75 (by decide) ?_
  refine L_newa (pc := 77) (n := 119) (sh2 := (SH.take 120)) 15 8 dX12_init_77 rfl rfl rfl ac_int (by decide) (by decide) rfl (fun k => hz 119 k (by decide)) (by decide +kernel) rfl rfl rfl ?_
  refine L_putr (pc := 79) (l1 := rf_10) 12 10 dX12_init_79 fl_X12_38 (n := 34) rfl fr_12_10 (Or.inr ⟨rfl, rfl, zT_in 903 (by decide +kernel) (by decide +kernel)⟩) (by decide) (fun q => rfl) (fun q => rfl) rfl ?_
  refine C_aload_n (pc := 82) dX12_init_82 rfl ?_
  refine C_bipush (pc := 83) (x := nI 6) dX12_init_83 (by decide) ?_
  refine L_newa (pc := 85) (n := 120) (sh2 := (SH.take 121)) 15 6 dX12_init_85 rfl rfl rfl ac_int (by decide) (by decide) rfl (fun k => hz 120 k (by decide)) (by decide +kernel) rfl rfl rfl ?_
  refine L_putr (pc := 87) (l1 := rf_11) 12 11 dX12_init_87 fl_X12_41 (n := 34) rfl fr_12_11 (Or.inr ⟨rfl, rfl, zT_in 904 (by decide +kernel) (by decide +kernel)⟩) (by decide) (fun q => rfl) (fun q => rfl) rfl ?_
  refine C_aload_n (pc := 90) dX12_init_90 rfl ?_
  refine C_bipush (pc := 91) (x := nI 24) dX12_init_91 (by decide) ?_
  refine L_newa (pc := 93) (n := 121) (sh2 := (SH.take 122)) 15 24 dX12_init_93 rfl rfl rfl ac_int (by decide) (by decide) rfl (fun k => hz 121 k (by decide)) (by decide +kernel) rfl rfl rfl ?_
  refine L_putr (pc := 95) (l1 := rf_12) 12 12 dX12_init_95 fl_X12_44 (n := 34) rfl fr_12_12 (Or.inr ⟨rfl, rfl, zT_in 905 (by decide +kernel) (by decide +kernel)⟩) (by decide) (fun q => rfl) (fun q => rfl) rfl ?_
  refine C_aload_n (pc := 98) dX12_init_98 rfl ?_
  refine C_sipush (pc := 99) (x := nI 384) dX12_init_99 (by decide) ?_
  refine L_newa (pc := 102) (n := 122) (sh2 := (SH.take 123)) 15 384 dX12_init_102 rfl rfl rfl ac_int (by decide) (by decide) rfl (fun k => hz 122 k (by decide)) (by decide +kernel) rfl rfl rfl ?_
  refine L_putr (pc := 104) (l1 := rf_13) 12 17 dX12_init_104 fl_X12_47 (n := 34) rfl fr_12_17 (Or.inr ⟨rfl, rfl, zT_in 910 (by decide +kernel) (by decide +kernel)⟩) (by decide) (fun q => rfl) (fun q => rfl) rfl ?_
  refine C_aload_n (pc := 107) dX12_init_107 rfl ?_
  refine C_bipush (pc := 108) (x := nI 64) dX12_init_108 (by decide) ?_
  refine L_newa (pc := 110) (n := 123) (sh2 := (SH.take 124)) 15 64 dX12_init_110 rfl rfl rfl ac_int (by decide) (by decide) rfl (fun k => hz 123 k (by decide)) (by decide +kernel) rfl rfl rfl ?_
  refine L_putr (pc := 112) (l1 := rf_14) 12 20 dX12_init_112 fl_X12_50 (n := 34) rfl fr_12_20 (Or.inr ⟨rfl, rfl, zT_in 913 (by decide +kernel) (by decide +kernel)⟩) (by decide) (fun q => rfl) (fun q => rfl) rfl ?_
  refine C_aload_n (pc := 115) dX12_init_115 rfl ?_
  refine C_bipush (pc := 116) (x := nI 64) dX12_init_116 (by decide) ?_
  refine L_newa (pc := 118) (n := 124) (sh2 := (SH.take 125)) 15 64 dX12_init_118 rfl rfl rfl ac_int (by decide) (by decide) rfl (fun k => hz 124 k (by decide)) (by decide +kernel) rfl rfl rfl ?_
  refine L_putr (pc := 120) (l1 := rf_15) 12 21 dX12_init_120 fl_X12_53 (n := 34) rfl fr_12_21 (Or.inr ⟨rfl, rfl, zT_in 914 (by decide +kernel) (by decide +kernel)⟩) (by decide) (fun q => rfl) (fun q => rfl) rfl ?_
  refine C_aload_n (pc := 123) dX12_init_123 rfl ?_
  refine C_bipush (pc := 124) (x := nI 31) dX12_init_124 (by decide) ?_
  refine L_newa (pc := 126) (n := 125) (sh2 := (SH.take 126)) 15 31 dX12_init_126 rfl rfl rfl ac_int (by decide) (by decide) rfl (fun k => hz 125 k (by decide)) (by decide +kernel) rfl rfl rfl ?_
  refine L_putr (pc := 128) (l1 := rf_16) 12 22 dX12_init_128 fl_X12_56 (n := 34) rfl fr_12_22 (Or.inr ⟨rfl, rfl, zT_in 915 (by decide +kernel) (by decide +kernel)⟩) (by decide) (fun q => rfl) (fun q => rfl) rfl ?_
  refine C_aload_n (pc := 131) dX12_init_131 rfl ?_
  refine C_bipush (pc := 132) (x := nI 8) dX12_init_132 (by decide) ?_
  refine L_newa (pc := 134) (n := 126) (sh2 := (SH.take 127)) 15 8 dX12_init_134 rfl rfl rfl ac_int (by decide) (by decide) rfl (fun k => hz 126 k (by decide)) (by decide +kernel) rfl rfl rfl ?_
  refine L_putr (pc := 136) (l1 := rf_17) 12 28 dX12_init_136 fl_X12_59 (n := 34) rfl fr_12_28 (Or.inr ⟨rfl, rfl, zT_in 921 (by decide +kernel) (by decide +kernel)⟩) (by decide) (fun q => rfl) (fun q => rfl) rfl ?_
  refine C_aload_n (pc := 139) dX12_init_139 rfl ?_
  refine C_iconst (pc := 140) (x := nI 4) dX12_init_140 (by decide) ?_
  refine L_newa (pc := 141) (n := 127) (sh2 := (SH.take 128)) 15 4 dX12_init_141 rfl rfl rfl ac_int (by decide) (by decide) rfl (fun k => hz 127 k (by decide)) (by decide +kernel) rfl rfl rfl ?_
  refine L_putr (pc := 143) (l1 := rf_18) 12 29 dX12_init_143 fl_X12_62 (n := 34) rfl fr_12_29 (Or.inr ⟨rfl, rfl, zT_in 922 (by decide +kernel) (by decide +kernel)⟩) (by decide) (fun q => rfl) (fun q => rfl) rfl ?_
  refine C_aload_n (pc := 146) dX12_init_146 rfl ?_
  refine C_bipush (pc := 147) (x := nI 8) dX12_init_147 (by decide) ?_
  refine L_newa (pc := 149) (n := 128) (sh2 := (SH.take 129)) 15 8 dX12_init_149 rfl rfl rfl ac_int (by decide) (by decide) rfl (fun k => hz 128 k (by decide)) (by decide +kernel) rfl rfl rfl ?_
  refine L_putr (pc := 151) (l1 := rf_19) 12 30 dX12_init_151 fl_X12_65 (n := 34) rfl fr_12_30 (Or.inr ⟨rfl, rfl, zT_in 923 (by decide +kernel) (by decide +kernel)⟩) (by decide) (fun q => rfl) (fun q => rfl) rfl ?_
  refine C_aload_n (pc := 154) dX12_init_154 rfl ?_
  refine C_bipush (pc := 155) (x := nI 8) dX12_init_155 (by decide) ?_
  refine L_newa (pc := 157) (n := 129) (sh2 := (SH.take 130)) 15 8 dX12_init_157 rfl rfl rfl ac_int (by decide) (by decide) rfl (fun k => hz 129 k (by decide)) (by decide +kernel) rfl rfl rfl ?_
  refine L_putr (pc := 159) (l1 := rf_20) 12 31 dX12_init_159 fl_X12_68 (n := 34) rfl fr_12_31 (Or.inr ⟨rfl, rfl, zT_in 924 (by decide +kernel) (by decide +kernel)⟩) (by decide) (fun q => rfl) (fun q => rfl) rfl ?_
  refine C_aload_n (pc := 162) dX12_init_162 rfl ?_
  refine C_bipush (pc := 163) (x := nI 8) dX12_init_163 (by decide) ?_
  refine L_newa (pc := 165) (n := 130) (sh2 := (SH.take 131)) 15 8 dX12_init_165 rfl rfl rfl ac_int (by decide) (by decide) rfl (fun k => hz 130 k (by decide)) (by decide +kernel) rfl rfl rfl ?_
  refine L_putr (pc := 167) (l1 := rf_21) 12 32 dX12_init_167 fl_X12_71 (n := 34) rfl fr_12_32 (Or.inr ⟨rfl, rfl, zT_in 925 (by decide +kernel) (by decide +kernel)⟩) (by decide) (fun q => rfl) (fun q => rfl) rfl ?_
  rw [zF36]
  exact kk
set_option maxRecDepth 20000 in
theorem y_ref {Y : YP} {l : Launch} {D : va_G} {I : AI} (hYo : zYo Y) (hz : ∀ a k, 109 ≤ a → I a k = 0) : ZC Y l D zm_X12_init SH 0 (zent 1 [.ref 109]) [] I (zF_o 36) (SH.take 110) (fun v J G => v = none ∧ G = zF 36 ∧ RefA (sTk sD0) J ∧ zFrm I J) := by
  refine y_ref0 hz ?_
  refine C_aload_n (pc := 170) dX12_init_170 rfl ?_
  refine C_getr (pc := 171) 12 2 (b := 111) dX12_init_171 fl_X12_13 (n := 34) sh_109 fr_12_2 F_109_2 ?_
  refine C_iconst (pc := 174) (x := nI 1) dX12_init_174 (by decide) ?_
  refine C_bipush (pc := 175) (x := nI 6) dX12_init_175 (by decide) ?_
  refine C_iast (pc := 177) 1 dX12_init_177 sh_111 rfl (by decide) (by decide) ?_
  have hB0 : RefB (ovN sZ0 rl_0) (zu I 111 1 (nI 6)) := RefB.o (l := []) (fun a k ha => hz a k ha) 111 1 6
  have hF0 : zFrm I (zu I 111 1 (nI 6)) := zFrm.rf.u (by decide)
  generalize hJ0 : zu I 111 1 (nI 6) = J0 at hB0 hF0 ⊢
  refine C_aload_n (pc := 178) dX12_init_178 rfl ?_
  refine C_iconst (pc := 179) (x := nI 0) dX12_init_179 (by decide) ?_
  refine C_iconst (pc := 180) (x := nI 1) dX12_init_180 (by decide) ?_
  refine C_iconst (pc := 181) (x := nI 3) dX12_init_181 (by decide) ?_
  obtain ⟨_, J1, _, k182, rfl, rfl, hJ1⟩ := ZP.c (Y := Y) (c_firstStreet (l := l) (D := D) (tw := 36) (I := J0) (m := 0) (x := 0) (y := 1) (z := 3) (hB0.at 112 1 0 (by decide) (by decide +kernel)) (by decide))
  refine C_callV (pc := 182) (S := []) (As := [_, _, _]) hYo k182 dX12_init_182 ok_X12_firstStreet ml_X12_74 iv_X12_firstStreet ⟨by decide, by decide⟩ zret_v rfl ⟨rfl, by decide⟩ sh_109 ⟨by decide, rfl⟩ (Nat.le_of_ble_eq_true rfl) zNew.rf ?_
  have hB1 : RefB (ovN sZ0 rl_1) J1 := by rw [hJ1]; exact (((hB0.o 113 (12 + 0) 0).o 114 (12 + 0) 1).o 115 (12 + 0) 3).o 112 1 (0 + 1)
  have hF1 : zFrm I J1 := by rw [hJ1]; exact (((hF0.u (by decide)).u (by decide)).u (by decide)).u (by decide)
  refine C_aload_n (pc := 185) dX12_init_185 rfl ?_
  refine C_iconst (pc := 186) (x := nI 1) dX12_init_186 (by decide) ?_
  refine C_iconst (pc := 187) (x := nI 2) dX12_init_187 (by decide) ?_
  refine C_iconst (pc := 188) (x := nI 4) dX12_init_188 (by decide) ?_
  obtain ⟨_, J2, _, k189, rfl, rfl, hJ2⟩ := ZP.c (Y := Y) (c_firstStreet (l := l) (D := D) (tw := 36) (I := J1) (m := 1) (x := 1) (y := 2) (z := 4) (hB1.at 112 1 1 (by decide) (by decide +kernel)) (by decide))
  refine C_callV (pc := 189) (S := []) (As := [_, _, _]) hYo k189 dX12_init_189 ok_X12_firstStreet ml_X12_74 iv_X12_firstStreet ⟨by decide, by decide⟩ zret_v rfl ⟨rfl, by decide⟩ sh_109 ⟨by decide, rfl⟩ (Nat.le_of_ble_eq_true rfl) zNew.rf ?_
  have hB2 : RefB (ovN sZ0 rl_2) J2 := by rw [hJ2]; exact (((hB1.o 113 (12 + 1) 1).o 114 (12 + 1) 2).o 115 (12 + 1) 4).o 112 1 (1 + 1)
  have hF2 : zFrm I J2 := by rw [hJ2]; exact (((hF1.u (by decide)).u (by decide)).u (by decide)).u (by decide)
  refine C_aload_n (pc := 192) dX12_init_192 rfl ?_
  refine C_iconst (pc := 193) (x := nI 2) dX12_init_193 (by decide) ?_
  refine C_iconst (pc := 194) (x := nI 3) dX12_init_194 (by decide) ?_
  refine C_iconst (pc := 195) (x := nI 2) dX12_init_195 (by decide) ?_
  obtain ⟨_, J3, _, k196, rfl, rfl, hJ3⟩ := ZP.c (Y := Y) (c_firstStreet (l := l) (D := D) (tw := 36) (I := J2) (m := 2) (x := 2) (y := 3) (z := 2) (hB2.at 112 1 2 (by decide) (by decide +kernel)) (by decide))
  refine C_callV (pc := 196) (S := []) (As := [_, _, _]) hYo k196 dX12_init_196 ok_X12_firstStreet ml_X12_74 iv_X12_firstStreet ⟨by decide, by decide⟩ zret_v rfl ⟨rfl, by decide⟩ sh_109 ⟨by decide, rfl⟩ (Nat.le_of_ble_eq_true rfl) zNew.rf ?_
  have hB3 : RefB (ovN sZ0 rl_3) J3 := by rw [hJ3]; exact (((hB2.o 113 (12 + 2) 2).o 114 (12 + 2) 3).o 115 (12 + 2) 2).o 112 1 (2 + 1)
  have hF3 : zFrm I J3 := by rw [hJ3]; exact (((hF2.u (by decide)).u (by decide)).u (by decide)).u (by decide)
  refine C_aload_n (pc := 199) dX12_init_199 rfl ?_
  refine C_iconst (pc := 200) (x := nI 0) dX12_init_200 (by decide) ?_
  refine C_iconst (pc := 201) (x := nI 4) dX12_init_201 (by decide) ?_
  refine C_iconst (pc := 202) (x := nI 5) dX12_init_202 (by decide) ?_
  obtain ⟨_, J4, _, k203, rfl, rfl, hJ4⟩ := ZP.c (Y := Y) (c_firstStreet (l := l) (D := D) (tw := 36) (I := J3) (m := 3) (x := 0) (y := 4) (z := 5) (hB3.at 112 1 3 (by decide) (by decide +kernel)) (by decide))
  refine C_callV (pc := 203) (S := []) (As := [_, _, _]) hYo k203 dX12_init_203 ok_X12_firstStreet ml_X12_74 iv_X12_firstStreet ⟨by decide, by decide⟩ zret_v rfl ⟨rfl, by decide⟩ sh_109 ⟨by decide, rfl⟩ (Nat.le_of_ble_eq_true rfl) zNew.rf ?_
  have hB4 : RefB (ovN sZ0 rl_4) J4 := by rw [hJ4]; exact (((hB3.o 113 (12 + 3) 0).o 114 (12 + 3) 4).o 115 (12 + 3) 5).o 112 1 (3 + 1)
  have hF4 : zFrm I J4 := by rw [hJ4]; exact (((hF3.u (by decide)).u (by decide)).u (by decide)).u (by decide)
  refine C_aload_n (pc := 206) dX12_init_206 rfl ?_
  refine C_iconst (pc := 207) (x := nI 4) dX12_init_207 (by decide) ?_
  refine C_iconst (pc := 208) (x := nI 3) dX12_init_208 (by decide) ?_
  refine C_bipush (pc := 209) (x := nI 6) dX12_init_209 (by decide) ?_
  obtain ⟨_, J5, _, k211, rfl, rfl, hJ5⟩ := ZP.c (Y := Y) (c_firstStreet (l := l) (D := D) (tw := 36) (I := J4) (m := 4) (x := 4) (y := 3) (z := 6) (hB4.at 112 1 4 (by decide) (by decide +kernel)) (by decide))
  refine C_callV (pc := 211) (S := []) (As := [_, _, _]) hYo k211 dX12_init_211 ok_X12_firstStreet ml_X12_74 iv_X12_firstStreet ⟨by decide, by decide⟩ zret_v rfl ⟨rfl, by decide⟩ sh_109 ⟨by decide, rfl⟩ (Nat.le_of_ble_eq_true rfl) zNew.rf ?_
  have hB5 : RefB (ovN sZ0 rl_5) J5 := by rw [hJ5]; exact (((hB4.o 113 (12 + 4) 4).o 114 (12 + 4) 3).o 115 (12 + 4) 6).o 112 1 (4 + 1)
  have hF5 : zFrm I J5 := by rw [hJ5]; exact (((hF4.u (by decide)).u (by decide)).u (by decide)).u (by decide)
  refine C_aload_n (pc := 214) dX12_init_214 rfl ?_
  refine C_iconst (pc := 215) (x := nI 1) dX12_init_215 (by decide) ?_
  refine C_iconst (pc := 216) (x := nI 4) dX12_init_216 (by decide) ?_
  refine C_iconst (pc := 217) (x := nI 1) dX12_init_217 (by decide) ?_
  obtain ⟨_, J6, _, k218, rfl, rfl, hJ6⟩ := ZP.c (Y := Y) (c_firstStreet (l := l) (D := D) (tw := 36) (I := J5) (m := 5) (x := 1) (y := 4) (z := 1) (hB5.at 112 1 5 (by decide) (by decide +kernel)) (by decide))
  refine C_callV (pc := 218) (S := []) (As := [_, _, _]) hYo k218 dX12_init_218 ok_X12_firstStreet ml_X12_74 iv_X12_firstStreet ⟨by decide, by decide⟩ zret_v rfl ⟨rfl, by decide⟩ sh_109 ⟨by decide, rfl⟩ (Nat.le_of_ble_eq_true rfl) zNew.rf ?_
  have hB6 : RefB (ovN sZ0 rl_6) J6 := by rw [hJ6]; exact (((hB5.o 113 (12 + 5) 1).o 114 (12 + 5) 4).o 115 (12 + 5) 1).o 112 1 (5 + 1)
  have hF6 : zFrm I J6 := by rw [hJ6]; exact (((hF5.u (by decide)).u (by decide)).u (by decide)).u (by decide)
  refine C_aload_n (pc := 221) dX12_init_221 rfl ?_
  refine C_iconst (pc := 222) (x := nI 3) dX12_init_222 (by decide) ?_
  refine C_iconst (pc := 223) (x := nI 5) dX12_init_223 (by decide) ?_
  refine C_iconst (pc := 224) (x := nI 2) dX12_init_224 (by decide) ?_
  obtain ⟨_, J7, _, k225, rfl, rfl, hJ7⟩ := ZP.c (Y := Y) (c_firstStreet (l := l) (D := D) (tw := 36) (I := J6) (m := 6) (x := 3) (y := 5) (z := 2) (hB6.at 112 1 6 (by decide) (by decide +kernel)) (by decide))
  refine C_callV (pc := 225) (S := []) (As := [_, _, _]) hYo k225 dX12_init_225 ok_X12_firstStreet ml_X12_74 iv_X12_firstStreet ⟨by decide, by decide⟩ zret_v rfl ⟨rfl, by decide⟩ sh_109 ⟨by decide, rfl⟩ (Nat.le_of_ble_eq_true rfl) zNew.rf ?_
  have hB7 : RefB (ovN sZ0 rl_7) J7 := by rw [hJ7]; exact (((hB6.o 113 (12 + 6) 3).o 114 (12 + 6) 5).o 115 (12 + 6) 2).o 112 1 (6 + 1)
  have hF7 : zFrm I J7 := by rw [hJ7]; exact (((hF6.u (by decide)).u (by decide)).u (by decide)).u (by decide)
  refine C_aload_n (pc := 228) dX12_init_228 rfl ?_
  refine C_iconst (pc := 229) (x := nI 1) dX12_init_229 (by decide) ?_
  refine C_iconst (pc := 230) (x := nI 5) dX12_init_230 (by decide) ?_
  refine C_iconst (pc := 231) (x := nI 4) dX12_init_231 (by decide) ?_
  obtain ⟨_, J8, _, k232, rfl, rfl, hJ8⟩ := ZP.c (Y := Y) (c_firstSign (l := l) (D := D) (tw := 36) (I := J7) (m := 0) (x := 1) (y := 5) (z := 4) (hB7.at 109 13 0 (by decide) (by decide +kernel)) (by decide))
  refine C_callV (pc := 232) (S := []) (As := [_, _, _]) hYo k232 dX12_init_232 ok_X12_firstSign ml_X12_78 iv_X12_firstSign ⟨by decide, by decide⟩ zret_v rfl ⟨rfl, by decide⟩ sh_109 ⟨by decide, rfl⟩ (Nat.le_of_ble_eq_true rfl) zNew.rf ?_
  have hB8 : RefB (ovN sZ0 rl_8) J8 := by rw [hJ8]; exact (((hB7.o 121 (3 * 0) 1).o 121 (3 * 0 + 1) 5).o 121 (3 * 0 + 2) 4).o 109 13 (0 + 1)
  have hF8 : zFrm I J8 := by rw [hJ8]; exact (((hF7.u (by decide)).u (by decide)).u (by decide)).u (by decide)
  refine C_aload_n (pc := 235) dX12_init_235 rfl ?_
  refine C_iconst (pc := 236) (x := nI 4) dX12_init_236 (by decide) ?_
  refine C_iconst (pc := 237) (x := nI 5) dX12_init_237 (by decide) ?_
  refine C_iconst (pc := 238) (x := nI 3) dX12_init_238 (by decide) ?_
  obtain ⟨_, J9, _, k239, rfl, rfl, hJ9⟩ := ZP.c (Y := Y) (c_firstSign (l := l) (D := D) (tw := 36) (I := J8) (m := 1) (x := 4) (y := 5) (z := 3) (hB8.at 109 13 1 (by decide) (by decide +kernel)) (by decide))
  refine C_callV (pc := 239) (S := []) (As := [_, _, _]) hYo k239 dX12_init_239 ok_X12_firstSign ml_X12_78 iv_X12_firstSign ⟨by decide, by decide⟩ zret_v rfl ⟨rfl, by decide⟩ sh_109 ⟨by decide, rfl⟩ (Nat.le_of_ble_eq_true rfl) zNew.rf ?_
  have hB9 : RefB (ovN sZ0 rl_9) J9 := by rw [hJ9]; exact (((hB8.o 121 (3 * 1) 4).o 121 (3 * 1 + 1) 5).o 121 (3 * 1 + 2) 3).o 109 13 (1 + 1)
  have hF9 : zFrm I J9 := by rw [hJ9]; exact (((hF8.u (by decide)).u (by decide)).u (by decide)).u (by decide)
  refine C_aload_n (pc := 242) dX12_init_242 rfl ?_
  refine C_iconst (pc := 243) (x := nI 2) dX12_init_243 (by decide) ?_
  refine C_iconst (pc := 244) (x := nI 5) dX12_init_244 (by decide) ?_
  refine C_iconst (pc := 245) (x := nI 1) dX12_init_245 (by decide) ?_
  obtain ⟨_, J10, _, k246, rfl, rfl, hJ10⟩ := ZP.c (Y := Y) (c_firstSign (l := l) (D := D) (tw := 36) (I := J9) (m := 2) (x := 2) (y := 5) (z := 1) (hB9.at 109 13 2 (by decide) (by decide +kernel)) (by decide))
  refine C_callV (pc := 246) (S := []) (As := [_, _, _]) hYo k246 dX12_init_246 ok_X12_firstSign ml_X12_78 iv_X12_firstSign ⟨by decide, by decide⟩ zret_v rfl ⟨rfl, by decide⟩ sh_109 ⟨by decide, rfl⟩ (Nat.le_of_ble_eq_true rfl) zNew.rf ?_
  have hB10 : RefB (ovN sZ0 rl_10) J10 := by rw [hJ10]; exact (((hB9.o 121 (3 * 2) 2).o 121 (3 * 2 + 1) 5).o 121 (3 * 2 + 2) 1).o 109 13 (2 + 1)
  have hF10 : zFrm I J10 := by rw [hJ10]; exact (((hF9.u (by decide)).u (by decide)).u (by decide)).u (by decide)
  refine C_aload_n (pc := 249) dX12_init_249 rfl ?_
  refine C_iconst (pc := 250) (x := nI 0) dX12_init_250 (by decide) ?_
  refine C_iconst (pc := 251) (x := nI 0) dX12_init_251 (by decide) ?_
  refine C_iconst (pc := 252) (x := nI 5) dX12_init_252 (by decide) ?_
  obtain ⟨_, J11, _, k253, rfl, rfl, hJ11⟩ := ZP.c (Y := Y) (c_firstWalker (l := l) (D := D) (tw := 36) (I := J10) (m := 0) (x := 0) (y := 0) (z := 5) (hB10.at 116 1 0 (by decide) (by decide +kernel)) (by decide))
  refine C_callV (pc := 253) (S := []) (As := [_, _, _]) hYo k253 dX12_init_253 ok_X12_firstWalker ml_X12_81 iv_X12_firstWalker ⟨by decide, by decide⟩ zret_v rfl ⟨rfl, by decide⟩ sh_109 ⟨by decide, rfl⟩ (Nat.le_of_ble_eq_true rfl) zNew.rf ?_
  have hB11 : RefB (ovN sZ0 rl_11) J11 := by rw [hJ11]; exact (((hB10.o 117 (4 + 0) 0).o 118 (4 + 0) 0).o 119 (4 + 0) 5).o 116 1 (0 + 1)
  have hF11 : zFrm I J11 := by rw [hJ11]; exact (((hF10.u (by decide)).u (by decide)).u (by decide)).u (by decide)
  refine C_aload_n (pc := 256) dX12_init_256 rfl ?_
  refine C_iconst (pc := 257) (x := nI 1) dX12_init_257 (by decide) ?_
  refine C_iconst (pc := 258) (x := nI 0) dX12_init_258 (by decide) ?_
  refine C_iconst (pc := 259) (x := nI 5) dX12_init_259 (by decide) ?_
  obtain ⟨_, J12, _, k260, rfl, rfl, hJ12⟩ := ZP.c (Y := Y) (c_firstWalker (l := l) (D := D) (tw := 36) (I := J11) (m := 1) (x := 1) (y := 0) (z := 5) (hB11.at 116 1 1 (by decide) (by decide +kernel)) (by decide))
  refine C_callV (pc := 260) (S := []) (As := [_, _, _]) hYo k260 dX12_init_260 ok_X12_firstWalker ml_X12_81 iv_X12_firstWalker ⟨by decide, by decide⟩ zret_v rfl ⟨rfl, by decide⟩ sh_109 ⟨by decide, rfl⟩ (Nat.le_of_ble_eq_true rfl) zNew.rf ?_
  have hB12 : RefB (ovN sZ0 rl_12) J12 := by rw [hJ12]; exact (((hB11.o 117 (4 + 1) 1).o 118 (4 + 1) 0).o 119 (4 + 1) 5).o 116 1 (1 + 1)
  have hF12 : zFrm I J12 := by rw [hJ12]; exact (((hF11.u (by decide)).u (by decide)).u (by decide)).u (by decide)
  refine C_aload_n (pc := 263) dX12_init_263 rfl ?_
  refine C_iconst (pc := 264) (x := nI 2) dX12_init_264 (by decide) ?_
  refine C_iconst (pc := 265) (x := nI 2) dX12_init_265 (by decide) ?_
  refine C_iconst (pc := 266) (x := nI 0) dX12_init_266 (by decide) ?_
  obtain ⟨_, J13, _, k267, rfl, rfl, hJ13⟩ := ZP.c (Y := Y) (c_firstWalker (l := l) (D := D) (tw := 36) (I := J12) (m := 2) (x := 2) (y := 2) (z := 0) (hB12.at 116 1 2 (by decide) (by decide +kernel)) (by decide))
  refine C_callV (pc := 267) (S := []) (As := [_, _, _]) hYo k267 dX12_init_267 ok_X12_firstWalker ml_X12_81 iv_X12_firstWalker ⟨by decide, by decide⟩ zret_v rfl ⟨rfl, by decide⟩ sh_109 ⟨by decide, rfl⟩ (Nat.le_of_ble_eq_true rfl) zNew.rf ?_
  have hB13 : RefB (ovN sZ0 rl_13) J13 := by rw [hJ13]; exact (((hB12.o 117 (4 + 2) 2).o 118 (4 + 2) 2).o 119 (4 + 2) 0).o 116 1 (2 + 1)
  have hF13 : zFrm I J13 := by rw [hJ13]; exact (((hF12.u (by decide)).u (by decide)).u (by decide)).u (by decide)
  refine C_aload_n (pc := 270) dX12_init_270 rfl ?_
  refine C_iconst (pc := 271) (x := nI 3) dX12_init_271 (by decide) ?_
  refine C_iconst (pc := 272) (x := nI 0) dX12_init_272 (by decide) ?_
  refine C_iconst (pc := 273) (x := nI 5) dX12_init_273 (by decide) ?_
  obtain ⟨_, J14, _, k274, rfl, rfl, hJ14⟩ := ZP.c (Y := Y) (c_firstWalker (l := l) (D := D) (tw := 36) (I := J13) (m := 3) (x := 3) (y := 0) (z := 5) (hB13.at 116 1 3 (by decide) (by decide +kernel)) (by decide))
  refine C_callV (pc := 274) (S := []) (As := [_, _, _]) hYo k274 dX12_init_274 ok_X12_firstWalker ml_X12_81 iv_X12_firstWalker ⟨by decide, by decide⟩ zret_v rfl ⟨rfl, by decide⟩ sh_109 ⟨by decide, rfl⟩ (Nat.le_of_ble_eq_true rfl) zNew.rf ?_
  have hB14 : RefB (ovN sZ0 rl_14) J14 := by rw [hJ14]; exact (((hB13.o 117 (4 + 3) 3).o 118 (4 + 3) 0).o 119 (4 + 3) 5).o 116 1 (3 + 1)
  have hF14 : zFrm I J14 := by rw [hJ14]; exact (((hF13.u (by decide)).u (by decide)).u (by decide)).u (by decide)
  refine C_aload_n (pc := 277) dX12_init_277 rfl ?_
  refine C_iconst (pc := 278) (x := nI 2) dX12_init_278 (by decide) ?_
  refine C_iconst (pc := 279) (x := nI 3) dX12_init_279 (by decide) ?_
  refine C_iconst (pc := 280) (x := nI 1) dX12_init_280 (by decide) ?_
  obtain ⟨_, J15, _, k281, rfl, rfl, hJ15⟩ := ZP.c (Y := Y) (c_firstRates (l := l) (D := D) (tw := 36) (I := J14) (r := 2) (d := 3) (q := 1))
  refine C_callV (pc := 281) (S := []) (As := [_, _, _]) hYo k281 dX12_init_281 ok_X12_firstRates ml_X12_84 iv_X12_firstRates ⟨by decide, by decide⟩ zret_v rfl ⟨rfl, by decide⟩ sh_109 ⟨by decide, rfl⟩ (Nat.le_of_ble_eq_true rfl) zNew.rf ?_
  have hB15 : RefB (ovN sZ0 rl_15) J15 := by rw [hJ15]; exact ((hB14.o 120 3 2).o 120 4 3).o 120 5 1
  have hF15 : zFrm I J15 := by rw [hJ15]; exact ((hF14.u (by decide)).u (by decide)).u (by decide)
  have hBf : RefB sD0 J15 := hB15
  refine C_aload_n (pc := 284) dX12_init_284 rfl ?_
  have hV : RefV sD0 J15 := fun a k ha => hBf a k (by
    simp only [zrA, Bool.and_eq_true, decide_eq_true_eq] at ha
    omega)
  obtain ⟨_, K, _, kt, rfl, rfl, hA, hFK⟩ := ZP.c (Y := Y) (c_takeDraft (l := l) (D := D) (tw := 36) hV (hBf 109 1 (by decide)) (hBf 109 13 (by decide)) sD0_F)
  refine C_callV (pc := 285) (S := []) (As := []) hYo kt dX12_init_285 ok_X12_takeDraft ml_X12_87 iv_X12_takeDraft ⟨by decide, by decide⟩ zret_v rfl ⟨rfl, by decide⟩ sh_109 ⟨by decide, rfl⟩ (Nat.le_of_ble_eq_true rfl) zNew.rf ?_
  exact C_ret (pc := 288) dX12_init_288 ⟨rfl, rfl, hA, fun a ha => (hFK a ha).trans (hF15 a ha)⟩
