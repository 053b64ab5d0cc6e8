/-! the text that the system's constructor reads: a String constant, outside the memory (90001 the String, 90002 its bytes, 90003 what a static of the JDK holds) -/
def txS : String := "c6;s0,1,3;s1,2,4;s2,3,2;s0,4,5;s4,3,6;s1,4,1;s3,5,2;g1,5,4;g4,5,3;g2,5,1;w0,0,5;w1,0,5;w2,2,0;w3,0,5;"
def txN : List Nat := [99, 54, 59, 115, 48, 44, 49, 44, 51, 59, 115, 49, 44, 50, 44, 52, 59, 115, 50, 44, 51, 44, 50, 59, 115, 48, 44, 52, 44, 53, 59, 115, 52, 44, 51, 44, 54, 59, 115, 49, 44, 52, 44, 49, 59, 115, 51, 44, 53, 44, 50, 59, 103, 49, 44, 53, 44, 52, 59, 103, 52, 44, 53, 44, 51, 59, 103, 50, 44, 53, 44, 49, 59, 119, 48, 44, 48, 44, 53, 59, 119, 49, 44, 48, 44, 53, 59, 119, 50, 44, 50, 44, 48, 59, 119, 51, 44, 48, 44, 53, 59]
def txB : List Int32 := txN.map nI
def txC (j : Nat) : Int32 := ((txB.getD j 0 &&& (Int16.ofInt 255).toInt32).toUInt32 % 65536).toInt32
theorem txC_n : ∀ j, j < 101 → txC j = nI (txN.getD j 0) ∧ narrow .char (.int (txC j)) = .int (txC j) := by decide +kernel
def fmOk (fm : Value) : Prop := fm = .null ∨ fm = .ref 90003
def YS (fm : Value) : YP := fun s A r => vk_S 1 [101] [txB] (fun _ => r 1) (fun _ => r 2) A s s.heap ∧ vk_R "LostAndTaxed" 87 txS (r 1) s ∧ va_Z "java/lang/String" "COMPACT_STRINGS" "Z" (.int 1) A s s.heap ∧ va_Z "jdk/internal/util/Preconditions" "SIOOBE_FORMATTER" "Ljava/util/function/BiFunction;" (zv (fun a => r (a - 90000)) fm) A s s.heap
theorem zYo_S (fm : Value) : zYo (YS fm) := by
  refine ⟨fun s U A B r locs h hS hW hB => ⟨((h.1.moved hW.alike).kept hS.2.1).narrow hB, h.2.1.warm hW, ((h.2.2.1.moved hW.alike).kept hS.2.1).narrow hB, ((h.2.2.2.moved hW.alike).kept hS.2.1).narrow hB⟩, fun a U A r g mk h => ⟨?_, ?_, ?_, ?_⟩⟩
  · exact vk_S.moved (u := U) (U := U.calling g mk a) (Vm.Alike.refl U.vm) h.1
  · exact vk_R.same (u := U) (U := U.calling g mk a) rfl h.2.1
  · exact va_Z.moved (u := U) (U := U.calling g mk a) (Vm.Alike.refl U.vm) h.2.2.1
  · exact va_Z.moved (u := U) (U := U.calling g mk a) (Vm.Alike.refl U.vm) h.2.2.2
section YText
variable {fm : Value} {l : Launch} {D : va_G} {M : ZM} {pc : Nat} {L : List (Option Value)} {S : List Value} {I : AI} {F : AR} {sh shf : AS} {Post : Option Int32 → AI → AR → Prop}
theorem C_ldc (hd : decode M.2.1 pc = .ok (.ldc 87, 2)) (hM : M.1.cls = "LostAndTaxed") (kk : ZC (YS fm) l D M shf (pc + 2) L (.ref 90001 :: S) I F sh Post) : ZC (YS fm) l D M shf pc L S I F sh Post := by
  obtain ⟨v9, I9, F9, h9, hp9⟩ := kk
  refine ⟨v9, I9, F9, ?_, hp9⟩
  intro p e R s m args below meth c A H locs cells slots Q ro ga ls hY hX hZ hl hc hs hr
  exact va_ldcS (own := M.1.cls) (tx := txS) (index := 87) (q := ro 90001) hX.1 hX.2.1 hX.2.2.2.1 (by rw [hM]; exact hY.2.1) hd (h9 p e R s m args below meth c A H locs cells slots Q ro ga ls hY hX hZ hl hc hs hr)
theorem C_sval (hd : decode M.2.1 pc = .ok (.getfield 9, 3)) (hli : Cond.fieldLink M.1.cls 9 "java/lang/String" "value" "[B" ∈ zT) (kk : ZC (YS fm) l D M shf (pc + 3) L (.ref 90002 :: S) I F sh Post) : ZC (YS fm) l D M shf pc L (.ref 90001 :: S) I F sh Post := by
  obtain ⟨v9, I9, F9, h9, hp9⟩ := kk
  refine ⟨v9, I9, F9, ?_, hp9⟩
  intro p e R s m args below meth c A H locs cells slots Q ro ga ls hY hX hZ hl hc hs hr
  exact vk_getf (q := ro 90001) (v := .ref (ro 90002)) hX.1 hX.2.1 (hY.1.1 0 (by decide)).2.2.1 hZ.2.2.1 hX.2.2.2.1 (hX.w hli) (fun _ h => h) hd (h9 p e R s m args below meth c A H locs cells slots Q ro ga ls hY hX hZ hl hc hs hr)
theorem C_scod (hd : decode M.2.1 pc = .ok (.getfield 15, 3)) (hli : Cond.fieldLink M.1.cls 15 "java/lang/String" "coder" "B" ∈ zT) (kk : ZC (YS fm) l D M shf (pc + 3) L (.int 0 :: S) I F sh Post) : ZC (YS fm) l D M shf pc L (.ref 90001 :: S) I F sh Post := by
  obtain ⟨v9, I9, F9, h9, hp9⟩ := kk
  refine ⟨v9, I9, F9, ?_, hp9⟩
  intro p e R s m args below meth c A H locs cells slots Q ro ga ls hY hX hZ hl hc hs hr
  exact vk_getf (q := ro 90001) (v := .int 0) hX.1 hX.2.1 (hY.1.1 0 (by decide)).2.1 hZ.2.2.1 hX.2.2.2.1 (hX.w hli) (fun _ h => h) hd (h9 p e R s m args below meth c A H locs cells slots Q ro ga ls hY hX hZ hl hc hs hr)
theorem C_slen (hd : decode M.2.1 pc = .ok (.arraylength, 1)) (kk : ZC (YS fm) l D M shf (pc + 1) L (.int (nI 101) :: S) I F sh Post) : ZC (YS fm) l D M shf pc L (.ref 90002 :: S) I F sh Post := by
  obtain ⟨v9, I9, F9, h9, hp9⟩ := kk
  refine ⟨v9, I9, F9, ?_, hp9⟩
  intro p e R s m args below meth c A H locs cells slots Q ro ga ls hY hX hZ hl hc hs hr
  exact va_tlen (t := ro 90002) hX.1 hX.2.1 (hY.1.1 0 (by decide)).2.2.2 hZ.2.2.1 rfl hd (h9 p e R s m args below meth c A H locs cells slots Q ro ga ls hY hX hZ hl hc hs hr)
theorem C_sbl {j : Nat} (hd : decode M.2.1 pc = .ok (.baload, 1)) (hj : j < 101) (kk : ZC (YS fm) l D M shf (pc + 1) L (.int (txB.getD j 0) :: S) I F sh Post) : ZC (YS fm) l D M shf pc L (.int (nI j) :: .ref 90002 :: S) I F sh Post := by
  obtain ⟨v9, I9, F9, h9, hp9⟩ := kk
  refine ⟨v9, I9, F9, ?_, hp9⟩
  intro p e R s m args below meth c A H locs cells slots Q ro ga ls hY hX hZ hl hc hs hr
  exact va_tb (t := ro 90002) (i := nI j) (v := .int (txB.getD j 0)) hX.1 hX.2.1 (hY.1.1 0 (by decide)).2.2.2 hZ.2.2.1 (vp_in_nI hj (by decide)) (by rw [nI_clamp (by omega)]; rfl) hd (h9 p e R s m args below meth c A H locs cells slots Q ro ga ls hY hX hZ hl hc hs hr)
theorem C_gcs (hd : decode M.2.1 pc = .ok (.getstatic 38, 3)) (hli : Cond.fieldLink M.1.cls 38 "java/lang/String" "COMPACT_STRINGS" "Z" ∈ zT) (kk : ZC (YS fm) l D M shf (pc + 3) L (.int 1 :: S) I F sh Post) : ZC (YS fm) l D M shf pc L S I F sh Post := by
  obtain ⟨v9, I9, F9, h9, hp9⟩ := kk
  refine ⟨v9, I9, F9, ?_, hp9⟩
  intro p e R s m args below meth c A H locs cells slots Q ro ga ls hY hX hZ hl hc hs hr
  exact va_gets hX.1 hX.2.1 hY.2.2.1 hZ.2.2.1 hX.2.2.2.1 (hX.w hli) (fun _ h => h) hd (h9 p e R s m args below meth c A H locs cells slots Q ro ga ls hY hX hZ hl hc hs hr)
theorem C_gfm (hfm : fmOk fm) (hd : decode M.2.1 pc = .ok (.getstatic 1053, 3)) (hli : Cond.fieldLink M.1.cls 1053 "jdk/internal/util/Preconditions" "SIOOBE_FORMATTER" "Ljava/util/function/BiFunction;" ∈ zT) (kk : ZC (YS fm) l D M shf (pc + 3) L (fm :: S) I F sh Post) : ZC (YS fm) l D M shf pc L S I F sh Post := by
  obtain ⟨v9, I9, F9, h9, hp9⟩ := kk
  refine ⟨v9, I9, F9, ?_, hp9⟩
  intro p e R s m args below meth c A H locs cells slots Q ro ga ls hY hX hZ hl hc hs hr
  have K := h9 p e R s m args below meth c A H locs cells slots Q ro ga ls hY hX hZ hl hc hs hr
  have e1 : zv ro fm = zv (fun a => ro (90000 + (a - 90000))) fm := by
    rcases hfm with rfl | rfl
    · show Value.null = Value.null
      rfl
    · show Value.ref (ro 90003) = Value.ref (ro (90000 + (90003 - 90000)))
      rw [show 90000 + (90003 - 90000) = 90003 by omega]
  rw [List.map_cons, e1] at K
  exact va_gets hX.1 hX.2.1 hY.2.2.2 hZ.2.2.1 hX.2.2.2.1 (hX.w hli) (fun _ h => h) hd K
theorem C_popv {a : Value} (hd : decode M.2.1 pc = .ok (.pop, 1)) (ha : a.category = 1) (k : ZC (YS fm) l D M shf (pc + 1) L S I F sh Post) : ZC (YS fm) l D M shf pc L (a :: S) I F sh Post := C_pop hd ha k
/-- the text as a call's receiver -/
theorem ys_recv {fm : Value} : ∀ (s : State) (A : Nat → Prop) (H : Heap) (locs : List Loc) (ro : Nat → Nat), YS fm s A (fun i => ro (90000 + i)) → va_S A s.heap H locs → ∃ cell : Cell, H[ro 90001]? = some cell ∧ cell.vm.isStatics = false ∧ s.vm.findClass "java/lang/String" = some cell.cls := fun s A H locs ro hY hS => vk_recv (i := 0) hY.1 (by decide) hS
end YText
abbrev zm_J3_ck : ZM := (yJ3_checkIndex_8e157, cJ3_checkIndex_8e157, 3, (some .int), 0, 0, 0)
theorem ok_J3_ck : zOk zm_J3_ck 3 := ⟨zT_in 426 (by decide +kernel) (by decide +kernel), zT_in 95 (by decide +kernel) (by decide +kernel), by decide +kernel, by decide +kernel, by decide +kernel, by decide +kernel⟩
theorem is_J3_ck : Cond.static yJ3_checkIndex_8e157 ∈ zT := zT_in 425 (by decide +kernel) (by decide +kernel)
theorem ml_J0_1059 : zMl RJ0 1059 yJ3_checkIndex_8e157 := Or.inl (zT_in 424 (by decide +kernel) (by decide +kernel))
theorem fl_J0_9 : Cond.fieldLink RJ0 9 "java/lang/String" "value" "[B" ∈ zT := zT_in 1219 (by decide +kernel) (by decide +kernel)
theorem fl_J0_15 : Cond.fieldLink RJ0 15 "java/lang/String" "coder" "B" ∈ zT := zT_in 1220 (by decide +kernel) (by decide +kernel)
theorem fl_J0_38 : Cond.fieldLink RJ0 38 "java/lang/String" "COMPACT_STRINGS" "Z" ∈ zT := zT_in 406 (by decide +kernel) (by decide +kernel)
theorem fl_J0_1053 : Cond.fieldLink RJ0 1053 "jdk/internal/util/Preconditions" "SIOOBE_FORMATTER" "Ljava/util/function/BiFunction;" ∈ zT := zT_in 422 (by decide +kernel) (by decide +kernel)
section YTextC
variable {fm : Value} {l : Launch} {D : va_G} {I : AI} {F : AR} {sh : AS}
theorem y_coder : ZC (YS fm) l D zm_J0_coder_7d493 sh 0 (zent 1 [.ref 90001]) [] I F sh (fun v J G => v = some 0 ∧ I = J ∧ F = G) := by
  show ZC _ _ _ _ _ _ [some _] _ _ _ _ _
  refine C_gcs (pc := 0) dJ0_coder_7d493_0 fl_J0_38 ?_
  refine C_if_eqF (pc := 3) (tgt := 13) dJ0_coder_7d493_3 (by decide) (by decide) ?_
  refine C_aload_n (pc := 6) dJ0_coder_7d493_6 rfl ?_
  refine C_scod (pc := 7) dJ0_coder_7d493_7 fl_J0_15 ?_
  refine C_goto (pc := 10) (tgt := 14) dJ0_coder_7d493_10 (by decide) ?_
  exact C_iret (pc := 14) dJ0_coder_7d493_14 ⟨rfl, rfl, rfl⟩
theorem y_isLatin1 : ZC (YS fm) l D zm_J0_isLatin1_aae02 sh 0 (zent 1 [.ref 90001]) [] I F sh (fun v J G => v = some 1 ∧ I = J ∧ F = G) := by
  show ZC _ _ _ _ _ _ [some _] _ _ _ _ _
  refine C_gcs (pc := 0) dJ0_isLatin1_aae02_0 fl_J0_38 ?_
  refine C_if_eqF (pc := 3) (tgt := 17) dJ0_isLatin1_aae02_3 (by decide) (by decide) ?_
  refine C_aload_n (pc := 6) dJ0_isLatin1_aae02_6 rfl ?_
  refine C_scod (pc := 7) dJ0_isLatin1_aae02_7 fl_J0_15 ?_
  refine C_if_neF (pc := 10) (tgt := 17) dJ0_isLatin1_aae02_10 (by decide) rfl ?_
  refine C_iconst (pc := 13) (x := 1) dJ0_isLatin1_aae02_13 (by decide) ?_
  refine C_goto (pc := 14) (tgt := 18) dJ0_isLatin1_aae02_14 (by decide) ?_
  exact C_iret (pc := 18) dJ0_isLatin1_aae02_18 ⟨rfl, rfl, rfl⟩
theorem y_length : ZC (YS fm) l D zm_J0_length_8abf5 sh 0 (zent 1 [.ref 90001]) [] I F sh (fun v J G => v = some (nI 101) ∧ I = J ∧ F = G) := by
  show ZC _ _ _ _ _ _ [some _] _ _ _ _ _
  refine C_aload_n (pc := 0) dJ0_length_8abf5_0 rfl ?_
  refine C_sval (pc := 1) dJ0_length_8abf5_1 fl_J0_9 ?_
  refine C_slen (pc := 4) dJ0_length_8abf5_4 ?_
  refine C_aload_n (pc := 5) dJ0_length_8abf5_5 rfl ?_
  obtain ⟨_, _, _, k, rfl, rfl, rfl⟩ := y_coder (fm := fm) (l := l) (D := D) (I := I) (F := F) (sh := sh)
  refine C_callVo (pc := 6) (S := [.int (nI 101)]) (As := []) (zYo_S fm) k dJ0_length_8abf5_6 ok_J0_coder_7d493 ml_J0_335 iv_J0_coder_7d493 ⟨by decide, by decide⟩ (Or.inr ⟨.byte, rfl, rfl⟩) rfl ⟨rfl, by decide⟩ ys_recv (Nat.le_of_ble_eq_true rfl) zNew.rf ?_
  refine C_ishr (pc := 9) dJ0_length_8abf5_9 ?_
  refine C_top (y := nI 101) (by decide) ?_
  exact C_iret (pc := 10) dJ0_length_8abf5_10 ⟨rfl, rfl, rfl⟩
theorem y_ck3 {j : Nat} (hj : j < 101) : ZC (YS fm) l D zm_J3_ck sh 0 (zent 3 [.int (nI j), .int (nI 101), fm]) [] I F sh (fun v J G => v = some (nI j) ∧ I = J ∧ F = G) := by
  show ZC _ _ _ _ _ _ [some _, some _, some _] _ _ _ _ _
  refine C_iload_n (pc := 0) dJ3_checkIndex_8e157_0 rfl ?_
  refine C_if_ltF (pc := 1) (tgt := 9) dJ3_checkIndex_8e157_1 (by decide) (nI_pos (by omega)) ?_
  refine C_iload_n (pc := 4) dJ3_checkIndex_8e157_4 rfl ?_
  refine C_iload_n (pc := 5) dJ3_checkIndex_8e157_5 rfl ?_
  refine C_icmp_ltT (pc := 6) (tgt := 16) dJ3_checkIndex_8e157_6 (by decide) (nI_lt hj (by decide)) ?_
  refine C_iload_n (pc := 16) dJ3_checkIndex_8e157_16 rfl ?_
  exact C_iret (pc := 17) dJ3_checkIndex_8e157_17 ⟨rfl, rfl, rfl⟩
theorem y_ck {j : Nat} (hfm : fmOk fm) (hj : j < 101) : ZC (YS fm) l D zm_J0_checkIndex_df160 sh 0 (zent 2 [.int (nI j), .int (nI 101)]) [] I F sh (fun v J G => v = none ∧ I = J ∧ F = G) := by
  show ZC _ _ _ _ _ _ [some _, some _] _ _ _ _ _
  refine C_iload_n (pc := 0) dJ0_checkIndex_df160_0 rfl ?_
  refine C_iload_n (pc := 1) dJ0_checkIndex_df160_1 rfl ?_
  refine C_gfm (pc := 2) hfm dJ0_checkIndex_df160_2 fl_J0_1053 ?_
  obtain ⟨_, _, _, k, rfl, rfl, rfl⟩ := y_ck3 (fm := fm) (l := l) (D := D) (I := I) (F := F) (sh := sh) hj
  refine C_callS (pc := 5) (S := []) (As := [_, _, _]) (zYo_S fm) k dJ0_checkIndex_df160_5 ok_J3_ck ml_J0_1059 is_J3_ck ⟨by decide, by decide⟩ (zret_i _) (by rcases hfm with rfl | rfl <;> rfl) ⟨rfl, by decide⟩ (Nat.le_of_ble_eq_true rfl) zNew.rf ?_
  refine C_pop (pc := 8) dJ0_checkIndex_df160_8 rfl ?_
  exact C_ret (pc := 9) dJ0_checkIndex_df160_9 ⟨rfl, rfl, rfl⟩
theorem y_l1 {j : Nat} (hfm : fmOk fm) (hj : j < 101) : ZC (YS fm) l D zm_J1_charAt_3b067 sh 0 (zent 2 [.ref 90002, .int (nI j)]) [] I F sh (fun v J G => v = some (txC j) ∧ I = J ∧ F = G) := by
  show ZC _ _ _ _ _ _ [some _, some _] _ _ _ _ _
  refine C_iload_n (pc := 0) dJ1_charAt_3b067_0 rfl ?_
  refine C_aload_n (pc := 1) dJ1_charAt_3b067_1 rfl ?_
  refine C_slen (pc := 2) dJ1_charAt_3b067_2 ?_
  obtain ⟨_, _, _, k, rfl, rfl, rfl⟩ := y_ck (fm := fm) (l := l) (D := D) (I := I) (F := F) (sh := sh) hfm hj
  refine C_callS (pc := 3) (S := []) (As := [_, _]) (zYo_S fm) k dJ1_charAt_3b067_3 ok_J0_checkIndex_df160 ml_J1_9 is_J0_checkIndex_df160 ⟨by decide, by decide⟩ zret_v rfl ⟨rfl, by decide⟩ (Nat.le_of_ble_eq_true rfl) zNew.rf ?_
  refine C_aload_n (pc := 6) dJ1_charAt_3b067_6 rfl ?_
  refine C_iload_n (pc := 7) dJ1_charAt_3b067_7 rfl ?_
  refine C_sbl (pc := 8) dJ1_charAt_3b067_8 hj ?_
  refine C_sipush (pc := 9) (x := (Int16.ofInt 255).toInt32) dJ1_charAt_3b067_9 rfl ?_
  refine C_iand (pc := 12) dJ1_charAt_3b067_12 ?_
  refine C_i2c (pc := 13) dJ1_charAt_3b067_13 ?_
  exact C_iret (pc := 14) dJ1_charAt_3b067_14 ⟨rfl, rfl, rfl⟩
theorem y_charAt {j : Nat} (hfm : fmOk fm) (hj : j < 101) : ZC (YS fm) l D zm_J0_charAt_5068e sh 0 (zent 2 [.ref 90001, .int (nI j)]) [] I F sh (fun v J G => v = some (txC j) ∧ I = J ∧ F = G) := by
  show ZC _ _ _ _ _ _ [some _, some _] _ _ _ _ _
  refine C_aload_n (pc := 0) dJ0_charAt_5068e_0 rfl ?_
  obtain ⟨_, _, _, k, rfl, rfl, rfl⟩ := y_isLatin1 (fm := fm) (l := l) (D := D) (I := I) (F := F) (sh := sh)
  refine C_callVo (pc := 1) (S := []) (As := []) (zYo_S fm) k dJ0_charAt_5068e_1 ok_J0_isLatin1_aae02 ml_J0_492 iv_J0_isLatin1_aae02 ⟨by decide, by decide⟩ (Or.inr ⟨.boolean, rfl, rfl⟩) rfl ⟨rfl, by decide⟩ ys_recv (Nat.le_of_ble_eq_true rfl) zNew.rf ?_
  refine C_if_eqF (pc := 4) (tgt := 16) dJ0_charAt_5068e_4 (by decide) (by decide) ?_
  refine C_aload_n (pc := 7) dJ0_charAt_5068e_7 rfl ?_
  refine C_sval (pc := 8) dJ0_charAt_5068e_8 fl_J0_9 ?_
  refine C_iload_n (pc := 11) dJ0_charAt_5068e_11 rfl ?_
  obtain ⟨_, _, _, k, rfl, rfl, rfl⟩ := y_l1 (fm := fm) (l := l) (D := D) (I := I) (F := F) (sh := sh) hfm hj
  refine C_callS (pc := 12) (S := []) (As := [_, _]) (zYo_S fm) k dJ0_charAt_5068e_12 ok_J1_charAt_3b067 ml_J0_495 is_J1_charAt_3b067 ⟨by decide, by decide⟩ (Or.inr ⟨.char, rfl, (txC_n j hj).2⟩) rfl ⟨rfl, by decide⟩ (Nat.le_of_ble_eq_true rfl) zNew.rf ?_
  exact C_iret (pc := 15) dJ0_charAt_5068e_15 ⟨rfl, rfl, rfl⟩
end YTextC
