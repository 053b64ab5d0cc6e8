set_option maxRecDepth 20000 in
theorem c_anyStrangerTo_5 {l : Launch} {D : va_G} {tw : Nat} {I : AI} {m : Nat} {kd fm am to : Nat → Nat} (hW : CWk m kd fm am to I 31) {a : Nat} (ha : a < 8) : ZP l D zm_X10_anyStrangerTo 0 (zent 3 [.ref 31, .int (nI a)]) [] I (zF tw) (fun v J G => v = some (zb (zLo (fun i => decide (kd i = 1 ∧ am i = a)) m).isSome) ∧ I = J ∧ G = zF tw) := by
  have hm := hW.2.1
  have loop : ∀ (d : Nat) (n : Nat), m - n < d → n ≤ m → (∀ j, j < n → (fun i => decide (kd i = 1 ∧ am i = a)) j = false) → ZP l D zm_X10_anyStrangerTo 2 [some (.ref 31), some (.int (nI a)), some (.int (nI n))] [] I (zF tw) (fun v J G => v = some (zb (zLo (fun i => decide (kd i = 1 ∧ am i = a)) m).isSome) ∧ I = J ∧ G = zF tw) := by
    intro d
    induction d with
    | zero =>
      intro n hd
      exact absurd hd (by omega)
    | succ d ih =>
      intro n hd hn hinv
      refine P_iload_n (pc := 2) dX10_anyStrangerTo_2 rfl ?_
      refine P_aload_n (pc := 3) dX10_anyStrangerTo_3 rfl ?_
      refine P_geti (pc := 4) 10 4 (x := nI (m)) dX10_anyStrangerTo_4 fl_X10_24 sh_31 fi_10_4 (hW.1) ?_
      refine P_icmp_geN (pc := 7) (tgt := 38) dX10_anyStrangerTo_7 (by decide) (by omega) (by omega) (fun h7 => ?_) (fun h7 => ?_)
      · refine P_iconst (pc := 38) (x := nI 0) dX10_anyStrangerTo_38 (by decide) ?_
        exact P_iret (pc := 39) dX10_anyStrangerTo_39 (⟨by rw [zLo_none (P := (fun i => decide (kd i = 1 ∧ am i = a))) (fun j hj => hinv j (by omega))]; rfl, rfl, rfl⟩)
      · refine P_aload_n (pc := 10) dX10_anyStrangerTo_10 rfl ?_
        refine P_getr (pc := 11) 10 0 dX10_anyStrangerTo_11 fl_X10_9 sh_31 fr_10_0 F_31_0 ?_
        refine P_iload_n (pc := 14) dX10_anyStrangerTo_14 rfl ?_
        have hb := hW.2.2 n (by omega)
        refine P_iald (pc := 15) (n) (x := nI (kd n)) dX10_anyStrangerTo_15 sh_32 rfl (by omega) (by decide) ((hW.2.2 _ (by omega)).1.1) ?_
        refine P_iconst (pc := 16) (x := nI 1) dX10_anyStrangerTo_16 (by decide) ?_
        refine P_icmp_neN (pc := 17) (tgt := 32) dX10_anyStrangerTo_17 (by decide) (by omega) (by omega) (fun h17 => ?_) (fun h17 => ?_)
        · refine P_iincN (pc := 32) (c := 1) dX10_anyStrangerTo_32 rfl (by decide) (by decide) rfl ?_
          refine P_goto (pc := 35) (tgt := 2) dX10_anyStrangerTo_35 (by decide) ?_
          exact ih (n + 1) (by omega) (by omega) (fun j hj => by
            by_cases e : j < n
            · exact hinv j e
            · rw [show j = n by omega]; exact decide_eq_false (by omega))
        · refine P_aload_n (pc := 20) dX10_anyStrangerTo_20 rfl ?_
          refine P_getr (pc := 21) 10 2 dX10_anyStrangerTo_21 fl_X10_18 sh_31 fr_10_2 F_31_2 ?_
          refine P_iload_n (pc := 24) dX10_anyStrangerTo_24 rfl ?_
          refine P_iald (pc := 25) (n) (x := nI (am n)) dX10_anyStrangerTo_25 sh_34 rfl (by omega) (by decide) ((hW.2.2 _ (by omega)).1.2.2.1) ?_
          refine P_iload_n (pc := 26) dX10_anyStrangerTo_26 rfl ?_
          refine P_icmp_neN (pc := 27) (tgt := 32) dX10_anyStrangerTo_27 (by decide) (by omega) (by omega) (fun h27 => ?_) (fun h27 => ?_)
          · refine P_iincN (pc := 32) (c := 1) dX10_anyStrangerTo_32 rfl (by decide) (by decide) rfl ?_
            refine P_goto (pc := 35) (tgt := 2) dX10_anyStrangerTo_35 (by decide) ?_
            exact ih (n + 1) (by omega) (by omega) (fun j hj => by
              by_cases e : j < n
              · exact hinv j e
              · rw [show j = n by omega]; exact decide_eq_false (by omega))
          · refine P_iconst (pc := 30) (x := nI 1) dX10_anyStrangerTo_30 (by decide) ?_
            exact P_iret (pc := 31) dX10_anyStrangerTo_31 (⟨by rw [zLo_some (P := (fun i => decide (kd i = 1 ∧ am i = a))) (k := n) (by omega) (decide_eq_true (by omega)) hinv]; rfl, rfl, rfl⟩)
  show ZP _ _ _ _ [some _, some _, none] _ _ _ _
  refine P_iconst (pc := 0) (x := nI 0) dX10_anyStrangerTo_0 (by decide) ?_
  refine P_istore_n (pc := 1) dX10_anyStrangerTo_1 (by decide) rfl ?_
  exact loop (m + 1) 0 (by omega) (by omega) (fun j hj => by omega)
set_option maxRecDepth 20000 in
theorem c_anyStrangerTo_36 {l : Launch} {D : va_G} {tw : Nat} {I : AI} {m : Nat} {kd fm am to : Nat → Nat} (hW : CWk m kd fm am to I 62) {a : Nat} (ha : a < 8) : ZP l D zm_X10_anyStrangerTo 0 (zent 3 [.ref 62, .int (nI a)]) [] I (zF tw) (fun v J G => v = some (zb (zLo (fun i => decide (kd i = 1 ∧ am i = a)) m).isSome) ∧ I = J ∧ G = zF tw) := by
  have hm := hW.2.1
  have loop : ∀ (d : Nat) (n : Nat), m - n < d → n ≤ m → (∀ j, j < n → (fun i => decide (kd i = 1 ∧ am i = a)) j = false) → ZP l D zm_X10_anyStrangerTo 2 [some (.ref 62), some (.int (nI a)), some (.int (nI n))] [] I (zF tw) (fun v J G => v = some (zb (zLo (fun i => decide (kd i = 1 ∧ am i = a)) m).isSome) ∧ I = J ∧ G = zF tw) := by
    intro d
    induction d with
    | zero =>
      intro n hd
      exact absurd hd (by omega)
    | succ d ih =>
      intro n hd hn hinv
      refine P_iload_n (pc := 2) dX10_anyStrangerTo_2 rfl ?_
      refine P_aload_n (pc := 3) dX10_anyStrangerTo_3 rfl ?_
      refine P_geti (pc := 4) 10 4 (x := nI (m)) dX10_anyStrangerTo_4 fl_X10_24 sh_62 fi_10_4 (hW.1) ?_
      refine P_icmp_geN (pc := 7) (tgt := 38) dX10_anyStrangerTo_7 (by decide) (by omega) (by omega) (fun h7 => ?_) (fun h7 => ?_)
      · refine P_iconst (pc := 38) (x := nI 0) dX10_anyStrangerTo_38 (by decide) ?_
        exact P_iret (pc := 39) dX10_anyStrangerTo_39 (⟨by rw [zLo_none (P := (fun i => decide (kd i = 1 ∧ am i = a))) (fun j hj => hinv j (by omega))]; rfl, rfl, rfl⟩)
      · refine P_aload_n (pc := 10) dX10_anyStrangerTo_10 rfl ?_
        refine P_getr (pc := 11) 10 0 dX10_anyStrangerTo_11 fl_X10_9 sh_62 fr_10_0 F_62_0 ?_
        refine P_iload_n (pc := 14) dX10_anyStrangerTo_14 rfl ?_
        have hb := hW.2.2 n (by omega)
        refine P_iald (pc := 15) (n) (x := nI (kd n)) dX10_anyStrangerTo_15 sh_63 rfl (by omega) (by decide) ((hW.2.2 _ (by omega)).1.1) ?_
        refine P_iconst (pc := 16) (x := nI 1) dX10_anyStrangerTo_16 (by decide) ?_
        refine P_icmp_neN (pc := 17) (tgt := 32) dX10_anyStrangerTo_17 (by decide) (by omega) (by omega) (fun h17 => ?_) (fun h17 => ?_)
        · refine P_iincN (pc := 32) (c := 1) dX10_anyStrangerTo_32 rfl (by decide) (by decide) rfl ?_
          refine P_goto (pc := 35) (tgt := 2) dX10_anyStrangerTo_35 (by decide) ?_
          exact ih (n + 1) (by omega) (by omega) (fun j hj => by
            by_cases e : j < n
            · exact hinv j e
            · rw [show j = n by omega]; exact decide_eq_false (by omega))
        · refine P_aload_n (pc := 20) dX10_anyStrangerTo_20 rfl ?_
          refine P_getr (pc := 21) 10 2 dX10_anyStrangerTo_21 fl_X10_18 sh_62 fr_10_2 F_62_2 ?_
          refine P_iload_n (pc := 24) dX10_anyStrangerTo_24 rfl ?_
          refine P_iald (pc := 25) (n) (x := nI (am n)) dX10_anyStrangerTo_25 sh_65 rfl (by omega) (by decide) ((hW.2.2 _ (by omega)).1.2.2.1) ?_
          refine P_iload_n (pc := 26) dX10_anyStrangerTo_26 rfl ?_
          refine P_icmp_neN (pc := 27) (tgt := 32) dX10_anyStrangerTo_27 (by decide) (by omega) (by omega) (fun h27 => ?_) (fun h27 => ?_)
          · refine P_iincN (pc := 32) (c := 1) dX10_anyStrangerTo_32 rfl (by decide) (by decide) rfl ?_
            refine P_goto (pc := 35) (tgt := 2) dX10_anyStrangerTo_35 (by decide) ?_
            exact ih (n + 1) (by omega) (by omega) (fun j hj => by
              by_cases e : j < n
              · exact hinv j e
              · rw [show j = n by omega]; exact decide_eq_false (by omega))
          · refine P_iconst (pc := 30) (x := nI 1) dX10_anyStrangerTo_30 (by decide) ?_
            exact P_iret (pc := 31) dX10_anyStrangerTo_31 (⟨by rw [zLo_some (P := (fun i => decide (kd i = 1 ∧ am i = a))) (k := n) (by omega) (decide_eq_true (by omega)) hinv]; rfl, rfl, rfl⟩)
  show ZP _ _ _ _ [some _, some _, none] _ _ _ _
  refine P_iconst (pc := 0) (x := nI 0) dX10_anyStrangerTo_0 (by decide) ?_
  refine P_istore_n (pc := 1) dX10_anyStrangerTo_1 (by decide) rfl ?_
  exact loop (m + 1) 0 (by omega) (by omega) (fun j hj => by omega)
set_option maxRecDepth 20000 in
theorem c_append {l : Launch} {D : va_G} {tw : Nat} {I : AI} {tx : Nat → Nat} {tn q : Nat} (hX : CTx tx tn I) (ht : tn < 200) (hq : q ≤ 126) : ZP l D zm_X7_append 0 (zent 2 [.ref 1, .int (nI q)]) [] I (zF tw) (fun v J G => v = none ∧ G = zF tw ∧ J = zu (zu I 2 tn (nI q)) 1 1 (nI (tn + 1))) := by
  show ZP _ _ _ _ [some _, some _] _ _ _ _
  refine P_aload_n (pc := 0) dX7_append_0 rfl ?_
  refine P_geti (pc := 1) 7 1 (x := nI (tn)) dX7_append_1 fl_X7_15 sh_1 fi_7_1 (hX.1) ?_
  refine P_sipush (pc := 4) (x := nI 200) dX7_append_4 (by decide) ?_
  refine P_icmp_geF (pc := 7) (tgt := 31) dX7_append_7 (by decide) (by rw [nI_leI (by omega) (by omega)]; omega) ?_
  refine P_aload_n (pc := 10) dX7_append_10 rfl ?_
  refine P_getr (pc := 11) 7 0 dX7_append_11 fl_X7_9 sh_1 fr_7_0 F_1_0 ?_
  refine P_aload_n (pc := 14) dX7_append_14 rfl ?_
  refine P_geti (pc := 15) 7 1 (x := nI (tn)) dX7_append_15 fl_X7_15 sh_1 fi_7_1 (hX.1) ?_
  refine P_iload_n (pc := 18) dX7_append_18 rfl ?_
  refine P_i2c (pc := 19) dX7_append_19 ?_
  refine P_cast (pc := 20) ((tn)) dX7_append_20 sh_2 rfl (by omega) (by decide) ?_
  refine P_aload_n (pc := 21) dX7_append_21 rfl ?_
  refine P_dup (pc := 22) dX7_append_22 rfl ?_
  refine P_geti (pc := 23) 7 1 (x := nI (tn)) dX7_append_23 fl_X7_15 sh_1 fi_7_1 (hX.1) ?_
  refine P_iconst (pc := 26) (x := nI 1) dX7_append_26 (by decide) ?_
  refine P_iaddN (pc := 27) dX7_append_27 ?_
  refine P_puti (pc := 28) 7 1 dX7_append_28 fl_X7_15 sh_1 fp_7_1 rfl rfl ?_
  refine P_ret (pc := 31) dX7_append_31 ?_
  rw [char_b q hq]
  exact ⟨rfl, rfl, rfl⟩
set_option maxRecDepth 20000 in
theorem c_letterAt {l : Launch} {D : va_G} {tw : Nat} {I : AI} {tx : Nat → Nat} {tn p : Nat} (hX : CTx tx tn I) (hp : p < 2 ^ 31) : ZP l D zm_X7_letterAt 0 (zent 2 [.ref 1, .int (nI p)]) [] I (zF tw) (fun v J G => v = some (zo (-4) (zCh tx tn p)) ∧ I = J ∧ G = zF tw) := by
  have ht := hX.2.1
  show ZP _ _ _ _ [some _, some _] _ _ _ _
  refine P_iload_n (pc := 0) dX7_letterAt_0 rfl ?_
  refine P_if_ltF (pc := 1) (tgt := 21) dX7_letterAt_1 (by decide) (nI_pos (by omega)) ?_
  refine P_iload_n (pc := 4) dX7_letterAt_4 rfl ?_
  refine P_aload_n (pc := 5) dX7_letterAt_5 rfl ?_
  refine P_geti (pc := 6) 7 1 (x := nI (tn)) dX7_letterAt_6 fl_X7_15 sh_1 fi_7_1 (hX.1) ?_
  refine P_icmp_geN (pc := 9) (tgt := 21) dX7_letterAt_9 (by decide) (by omega) (by omega) (fun h9 => ?_) (fun h9 => ?_)
  · refine P_bipush (pc := 21) (x := (-4)) dX7_letterAt_21 (by decide) ?_
    exact P_iret (pc := 23) dX7_letterAt_23 (⟨by unfold zCh; rw [if_neg (by omega)]; rfl, rfl, rfl⟩)
  · refine P_aload_n (pc := 12) dX7_letterAt_12 rfl ?_
    refine P_getr (pc := 13) 7 0 dX7_letterAt_13 fl_X7_9 sh_1 fr_7_0 F_1_0 ?_
    refine P_iload_n (pc := 16) dX7_letterAt_16 rfl ?_
    refine P_cald (pc := 17) (p) (x := nI (tx p)) dX7_letterAt_17 sh_2 rfl (by omega) (by decide) ((hX.2.2 _ (by omega)).1) ?_
    refine P_goto (pc := 18) (tgt := 23) dX7_letterAt_18 (by decide) ?_
    exact P_iret (pc := 23) dX7_letterAt_23 (⟨by unfold zCh; rw [if_pos (by omega)]; rfl, rfl, rfl⟩)
set_option maxRecDepth 20000 in
theorem c_sadd {l : Launch} {D : va_G} {tw : Nat} {I : AI} {m x y z : Nat} (hm : I 93 3 = nI m) (hm8 : m < 8) : ZP l D zm_X4_add 0 (zent 4 [.ref 93, .int (nI x), .int (nI y), .int (nI z)]) [] I (zF tw) (fun v J G => v = none ∧ G = zF tw ∧ J = zu (zu (zu (zu I 94 m (nI x)) 95 m (nI y)) 96 m (nI z)) 93 3 (nI (m + 1))) := by
  show ZP _ _ _ _ [some _, some _, some _, some _] _ _ _ _
  refine P_aload_n (pc := 0) dX4_add_0 rfl ?_
  refine P_geti (pc := 1) 4 3 (x := nI (m)) dX4_add_1 fl_X4_21 sh_93 fi_4_3 (hm) ?_
  refine P_bipush (pc := 4) (x := nI 8) dX4_add_4 (by decide) ?_
  refine P_icmp_geF (pc := 6) (tgt := 49) dX4_add_6 (by decide) (by rw [nI_leI (by omega) (by omega)]; omega) ?_
  refine P_aload_n (pc := 9) dX4_add_9 rfl ?_
  refine P_getr (pc := 10) 4 0 dX4_add_10 fl_X4_9 sh_93 fr_4_0 F_93_0 ?_
  refine P_aload_n (pc := 13) dX4_add_13 rfl ?_
  refine P_geti (pc := 14) 4 3 (x := nI (m)) dX4_add_14 fl_X4_21 sh_93 fi_4_3 (hm) ?_
  refine P_iload_n (pc := 17) dX4_add_17 rfl ?_
  refine P_iast (pc := 18) ((m)) dX4_add_18 sh_94 rfl (by omega) (by decide) ?_
  refine P_aload_n (pc := 19) dX4_add_19 rfl ?_
  refine P_getr (pc := 20) 4 1 dX4_add_20 fl_X4_15 sh_93 fr_4_1 F_93_1 ?_
  refine P_aload_n (pc := 23) dX4_add_23 rfl ?_
  refine P_geti (pc := 24) 4 3 (x := nI (m)) dX4_add_24 fl_X4_21 sh_93 fi_4_3 (hm) ?_
  refine P_iload_n (pc := 27) dX4_add_27 rfl ?_
  refine P_iast (pc := 28) ((m)) dX4_add_28 sh_95 rfl (by omega) (by decide) ?_
  refine P_aload_n (pc := 29) dX4_add_29 rfl ?_
  refine P_getr (pc := 30) 4 2 dX4_add_30 fl_X4_18 sh_93 fr_4_2 F_93_2 ?_
  refine P_aload_n (pc := 33) dX4_add_33 rfl ?_
  refine P_geti (pc := 34) 4 3 (x := nI (m)) dX4_add_34 fl_X4_21 sh_93 fi_4_3 (hm) ?_
  refine P_iload_n (pc := 37) dX4_add_37 rfl ?_
  refine P_iast (pc := 38) ((m)) dX4_add_38 sh_96 rfl (by omega) (by decide) ?_
  refine P_aload_n (pc := 39) dX4_add_39 rfl ?_
  refine P_dup (pc := 40) dX4_add_40 rfl ?_
  refine P_geti (pc := 41) 4 3 (x := nI (m)) dX4_add_41 fl_X4_21 sh_93 fi_4_3 (hm) ?_
  refine P_iconst (pc := 44) (x := nI 1) dX4_add_44 (by decide) ?_
  refine P_iaddN (pc := 45) dX4_add_45 ?_
  refine P_puti (pc := 46) 4 3 dX4_add_46 fl_X4_21 sh_93 fp_4_3 rfl rfl ?_
  exact P_ret (pc := 49) dX4_add_49 (⟨rfl, rfl, rfl⟩)
set_option maxRecDepth 20000 in
theorem c_placeBehind {l : Launch} {D : va_G} {tw : Nat} {I : AI} {T : ZT} (hT : zTr T I) {k : Nat} (hk : k < 2 ^ 31) : ZP l D zm_X9_placeBehind 0 (zent 2 [.ref 67, .int (nI k)]) [] I (zF tw) (fun v J G => v = some (nI (zAt T k)) ∧ I = J ∧ G = zF tw) := by
  have h30 := hT.2.1
  show ZP _ _ _ _ [some _, some _] _ _ _ _
  refine P_aload_n (pc := 0) dX9_placeBehind_0 rfl ?_
  refine P_getr (pc := 1) 9 0 dX9_placeBehind_1 fl_X9_9 sh_67 fr_9_0 F_67_0 ?_
  refine P_iconst (pc := 4) (x := nI 0) dX9_placeBehind_4 (by decide) ?_
  refine P_iload_n (pc := 5) dX9_placeBehind_5 rfl ?_
  refine P_aload_n (pc := 6) dX9_placeBehind_6 rfl ?_
  refine P_geti (pc := 7) 9 2 (x := nI (T.1)) dX9_placeBehind_7 fl_X9_19 sh_67 fi_9_2 (hT.1) ?_
  refine P_mminN (pc := 10) dX9_placeBehind_10 mm_X9_84 (by decide) (Nat.le_of_ble_eq_true rfl) (by omega) (by omega) ?_
  refine P_mmaxN (pc := 13) dX9_placeBehind_13 mm_X9_89 (by decide) (Nat.le_of_ble_eq_true rfl) (by omega) (by omega) ?_
  refine P_iald (pc := 16) ((max 0 (min k (T.1)))) (x := nI (T.2.2.2.2.2.2.1 (max 0 (min k T.1)))) dX9_placeBehind_16 sh_68 rfl (by omega) (by decide) (hT.2.2.1 _ (by omega)) ?_
  exact P_iret (pc := 17) dX9_placeBehind_17 (⟨by rw [zAt_min hT.2.2.2.2.1], rfl, rfl⟩)
theorem zFit_false {s : Nat → Nat → Nat} {i : Nat} {T : ZT} {k : Nat} (h : (decide (¬ s 128 k = i) || decide (zAt T (s 130 k) = s 129 k)) = false) : ∀ {n : Nat}, k < n → zFit s i T n = false
  | 0, hk => by omega
  | n + 1, hk => by
    unfold zFit
    by_cases e : k = n
    · subst e; rw [h, Bool.and_false]
    · rw [zFit_false h (by omega : k < n), Bool.false_and]
set_option maxRecDepth 20000 in
theorem c_fit {l : Launch} {D : va_G} {tw : Nat} {I : AI} {s : Nat → Nat → Nat} (hS : CSe s I) {T : ZT} (hT : zTr T I) {i : Nat} (hi : i < 8) : ZP l D zm_X4_fit 0 (zent 4 [.ref 93, .int (nI i), .ref 67]) [] I (zF tw) (fun v J G => v = some (zb (zFit s i T (s 109 33))) ∧ I = J ∧ G = zF tw) := by
  have hs8 := hS.2.1
  have loop : ∀ (d : Nat) (n : Nat), s 109 33 - n < d → n ≤ s 109 33 → zFit s i T n = true → ZP l D zm_X4_fit 2 [some (.ref 93), some (.int (nI i)), some (.ref 67), some (.int (nI n))] [] I (zF tw) (fun v J G => v = some (zb (zFit s i T (s 109 33))) ∧ I = J ∧ G = zF tw) := by
    intro d
    induction d with
    | zero =>
      intro n hd
      exact absurd hd (by omega)
    | succ d ih =>
      intro n hd hn hinv
      refine P_iload_n (pc := 2) dX4_fit_2 rfl ?_
      refine P_aload_n (pc := 3) dX4_fit_3 rfl ?_
      refine P_geti (pc := 4) 4 3 (x := nI (s 109 33)) dX4_fit_4 fl_X4_21 sh_93 fi_4_3 (hS.1) ?_
      refine P_icmp_geN (pc := 7) (tgt := 47) dX4_fit_7 (by decide) (by omega) (by omega) (fun h7 => ?_) (fun h7 => ?_)
      · refine P_iconst (pc := 47) (x := nI 1) dX4_fit_47 (by decide) ?_
        exact P_iret (pc := 48) dX4_fit_48 (⟨by rw [show s 109 33 = n by omega, hinv]; rfl, rfl, rfl⟩)
      · refine P_aload_n (pc := 10) dX4_fit_10 rfl ?_
        refine P_getr (pc := 11) 4 0 dX4_fit_11 fl_X4_9 sh_93 fr_4_0 F_93_0 ?_
        refine P_iload_n (pc := 14) dX4_fit_14 rfl ?_
        have hb := hS.2.2 n (by omega)
        have hz := zAt_lt (T := T) (by rw [← hT.2.2.2.2.1]; exact hT.2.2.2.2.2 _) hT.2.2.2.2.2 (s 130 n)
        refine P_iald (pc := 15) (n) (x := nI (s 128 n)) dX4_fit_15 sh_94 rfl (by omega) (by decide) ((hS.2.2 _ (by omega)).1.1) ?_
        refine P_iload_n (pc := 16) dX4_fit_16 rfl ?_
        refine P_icmp_neN (pc := 17) (tgt := 41) dX4_fit_17 (by decide) (by omega) (by omega) (fun h17 => ?_) (fun h17 => ?_)
        · refine P_iincN (pc := 41) (c := 1) dX4_fit_41 rfl (by decide) (by decide) rfl ?_
          refine P_goto (pc := 44) (tgt := 2) dX4_fit_44 (by decide) ?_
          exact ih (n + 1) (by omega) (by omega) (by unfold zFit; rw [hinv]; rw [decide_eq_true h17]; rfl)
        · refine P_aload_n (pc := 20) dX4_fit_20 rfl ?_
          refine P_aload_n (pc := 21) dX4_fit_21 rfl ?_
          refine P_getr (pc := 22) 4 2 dX4_fit_22 fl_X4_18 sh_93 fr_4_2 F_93_2 ?_
          refine P_iload_n (pc := 25) dX4_fit_25 rfl ?_
          refine P_iald (pc := 26) (n) (x := nI (s 130 n)) dX4_fit_26 sh_96 rfl (by omega) (by decide) ((hS.2.2 _ (by omega)).1.2.2) ?_
          obtain ⟨_, _, _, k1, rfl, rfl, rfl⟩ := c_placeBehind (l := l) (D := D) (tw := tw) hT (k := s 130 n) (by have := (hS.2.2 n (by omega)).2.2.2; omega)
          refine P_callV (pc := 27) (S := []) (As := [_]) k1 dX4_fit_27 ok_X9_placeBehind ml_X4_25 iv_X9_placeBehind ⟨by decide, by decide⟩ (zret_i _) rfl ⟨rfl, by decide⟩ sh_67 ⟨by decide, rfl⟩ (Nat.le_of_ble_eq_true rfl) ?_
          refine P_aload_n (pc := 30) dX4_fit_30 rfl ?_
          refine P_getr (pc := 31) 4 1 dX4_fit_31 fl_X4_15 sh_93 fr_4_1 F_93_1 ?_
          refine P_iload_n (pc := 34) dX4_fit_34 rfl ?_
          refine P_iald (pc := 35) (n) (x := nI (s 129 n)) dX4_fit_35 sh_95 rfl (by omega) (by decide) ((hS.2.2 _ (by omega)).1.2.1) ?_
          refine P_icmp_eqN (pc := 36) (tgt := 41) dX4_fit_36 (by decide) (by omega) (by omega) (fun h36 => ?_) (fun h36 => ?_)
          · refine P_iincN (pc := 41) (c := 1) dX4_fit_41 rfl (by decide) (by decide) rfl ?_
            refine P_goto (pc := 44) (tgt := 2) dX4_fit_44 (by decide) ?_
            exact ih (n + 1) (by omega) (by omega) (by unfold zFit; rw [hinv]; rw [decide_eq_true h36, Bool.or_true]; rfl)
          · refine P_iconst (pc := 39) (x := nI 0) dX4_fit_39 (by decide) ?_
            exact P_iret (pc := 40) dX4_fit_40 (⟨by rw [zFit_false (k := n) (by rw [decide_eq_false (fun z => z h17), decide_eq_false h36]; rfl) (by omega)]; rfl, rfl, rfl⟩)
  show ZP _ _ _ _ [some _, some _, some _, none] _ _ _ _
  refine P_iconst (pc := 0) (x := nI 0) dX4_fit_0 (by decide) ?_
  refine P_istore_n (pc := 1) dX4_fit_1 (by decide) rfl ?_
  exact loop (s 109 33 + 1) 0 (by omega) (by omega) rfl
set_option maxRecDepth 20000 in
theorem c_firstRepeat {l : Launch} {D : va_G} {tw : Nat} {I : AI} {T : ZT} (hT : zTr T I) : ZP l D zm_X9_firstRepeat 0 (zent 3 [.ref 67]) [] I (zF tw) (fun v J G => v = some (zo (-4) (zRd T)) ∧ I = J ∧ G = zF tw) := by
  have h30 := hT.2.1
  have hzl : ∀ k, zAt T k < 8 := zAt_lt (T := T) (by rw [← hT.2.2.2.2.1]; exact hT.2.2.2.2.2 _) hT.2.2.2.2.2
  have loop : ∀ (d : Nat) (k : Nat) (v2 : Option Value), T.1 + 1 - k < d → k ≤ T.1 + 1 → (∀ j, j < k + 2 → (fun k => (zLo (zRj T k) k).isSome) j = false) → ZP l D zm_X9_firstRepeat 2 [some (.ref 67), some (.int (nI (k + 2))), v2] [] I (zF tw) (fun v J G => v = some (zo (-4) (zRd T)) ∧ I = J ∧ G = zF tw) := by
    intro d
    induction d with
    | zero =>
      intro k v2 hd
      exact absurd hd (by omega)
    | succ d ih =>
      intro k v2 hd hk hinv
      refine P_iload_n (pc := 2) dX9_firstRepeat_2 rfl ?_
      refine P_aload_n (pc := 3) dX9_firstRepeat_3 rfl ?_
      refine P_geti (pc := 4) 9 2 (x := nI (T.1)) dX9_firstRepeat_4 fl_X9_19 sh_67 fi_9_2 (hT.1) ?_
      refine P_icmp_gtN (pc := 7) (tgt := 65) dX9_firstRepeat_7 (by decide) (by omega) (by omega) (fun h7 => ?_) (fun h7 => ?_)
      · refine P_bipush (pc := 65) (x := (-4)) dX9_firstRepeat_65 (by decide) ?_
        exact P_iret (pc := 67) dX9_firstRepeat_67 (⟨by rw [zRd, zLo_none (P := (fun k => (zLo (zRj T k) k).isSome)) (fun j hj => hinv j (by omega))]; rfl, rfl, rfl⟩)
      · refine P_iconst (pc := 10) (x := nI 1) dX9_firstRepeat_10 (by decide) ?_
        refine P_istore_n (pc := 11) dX9_firstRepeat_11 (by decide) rfl ?_
        have loopE : ∀ (d2 : Nat) (e : Nat), k + 2 - e < d2 → e + 1 ≤ k + 2 → (∀ j, j < e + 1 → zRj T (k + 2) j = false) → ZP l D zm_X9_firstRepeat 12 [some (.ref 67), some (.int (nI (k + 2))), some (.int (nI (e + 1)))] [] I (zF tw) (fun v J G => v = some (zo (-4) (zRd T)) ∧ I = J ∧ G = zF tw) := by
          intro d2
          induction d2 with
          | zero =>
            intro e hd2
            exact absurd hd2 (by omega)
          | succ d2 ihe =>
            intro e hd2 he hinv2
            refine P_iload_n (pc := 12) dX9_firstRepeat_12 rfl ?_
            refine P_iload_n (pc := 13) dX9_firstRepeat_13 rfl ?_
            refine P_icmp_geN (pc := 14) (tgt := 59) dX9_firstRepeat_14 (by decide) (by first | omega | (have := hzl (e + 1); have := hzl (k + 2); have := hzl (k + 2 - 1); have := hzl (e + 1 - 1); omega)) (by first | omega | (have := hzl (e + 1); have := hzl (k + 2); have := hzl (k + 2 - 1); have := hzl (e + 1 - 1); omega)) (fun h14 => ?_) (fun h14 => ?_)
            · refine P_iincN (pc := 59) (c := 1) dX9_firstRepeat_59 rfl (by decide) (by decide) rfl ?_
              refine P_goto (pc := 62) (tgt := 2) dX9_firstRepeat_62 (by decide) ?_
              exact ih (k + 1) _ (by omega) (by omega) (fun j hj => by
                by_cases q : j < k + 2
                · exact hinv j q
                · rw [show j = k + 2 by omega]; show (zLo (zRj T (k + 2)) (k + 2)).isSome = false; rw [zLo_none (fun i hi => hinv2 i (by omega))]; rfl)
            · refine P_aload_n (pc := 17) dX9_firstRepeat_17 rfl ?_
              refine P_getr (pc := 18) 9 0 dX9_firstRepeat_18 fl_X9_9 sh_67 fr_9_0 F_67_0 ?_
              refine P_iload_n (pc := 21) dX9_firstRepeat_21 rfl ?_
              refine P_iald (pc := 22) ((k + 2)) (x := nI (zAt T (k + 2))) dX9_firstRepeat_22 sh_68 rfl (by first | omega | (have := hzl (e + 1); have := hzl (k + 2); have := hzl (k + 2 - 1); have := hzl (e + 1 - 1); omega)) (by decide) ((hT.2.2.1 _ (by omega)).trans (congrArg nI (zAt_le (by omega)).symm)) ?_
              refine P_aload_n (pc := 23) dX9_firstRepeat_23 rfl ?_
              refine P_getr (pc := 24) 9 0 dX9_firstRepeat_24 fl_X9_9 sh_67 fr_9_0 F_67_0 ?_
              refine P_iload_n (pc := 27) dX9_firstRepeat_27 rfl ?_
              refine P_iald (pc := 28) ((e + 1)) (x := nI (zAt T (e + 1))) dX9_firstRepeat_28 sh_68 rfl (by first | omega | (have := hzl (e + 1); have := hzl (k + 2); have := hzl (k + 2 - 1); have := hzl (e + 1 - 1); omega)) (by decide) ((hT.2.2.1 _ (by omega)).trans (congrArg nI (zAt_le (by omega)).symm)) ?_
              refine P_icmp_neN (pc := 29) (tgt := 53) dX9_firstRepeat_29 (by decide) (by first | omega | (have := hzl (e + 1); have := hzl (k + 2); have := hzl (k + 2 - 1); have := hzl (e + 1 - 1); omega)) (by first | omega | (have := hzl (e + 1); have := hzl (k + 2); have := hzl (k + 2 - 1); have := hzl (e + 1 - 1); omega)) (fun h29 => ?_) (fun h29 => ?_)
              · refine P_iincN (pc := 53) (c := 1) dX9_firstRepeat_53 rfl (by decide) (by decide) rfl ?_
                refine P_goto (pc := 56) (tgt := 12) dX9_firstRepeat_56 (by decide) ?_
                exact ihe (e + 1) (by omega) (by omega) (fun j hj => by
                  by_cases q : j < e + 1
                  · exact hinv2 j q
                  · rw [show j = e + 1 by omega]; exact decide_eq_false (fun z => h29 z.1))
              · refine P_aload_n (pc := 32) dX9_firstRepeat_32 rfl ?_
                refine P_getr (pc := 33) 9 0 dX9_firstRepeat_33 fl_X9_9 sh_67 fr_9_0 F_67_0 ?_
                refine P_iload_n (pc := 36) dX9_firstRepeat_36 rfl ?_
                refine P_iconst (pc := 37) (x := nI 1) dX9_firstRepeat_37 (by decide) ?_
                refine P_isubN (pc := 38) dX9_firstRepeat_38 (by first | omega | (have := hzl (e + 1); have := hzl (k + 2); have := hzl (k + 2 - 1); have := hzl (e + 1 - 1); omega)) ?_
                refine P_iald (pc := 39) (((k + 2) - 1)) (x := nI (zAt T ((k + 2) - 1))) dX9_firstRepeat_39 sh_68 rfl (by first | omega | (have := hzl (e + 1); have := hzl (k + 2); have := hzl (k + 2 - 1); have := hzl (e + 1 - 1); omega)) (by decide) ((hT.2.2.1 _ (by omega)).trans (congrArg nI (zAt_le (by omega)).symm)) ?_
                refine P_aload_n (pc := 40) dX9_firstRepeat_40 rfl ?_
                refine P_getr (pc := 41) 9 0 dX9_firstRepeat_41 fl_X9_9 sh_67 fr_9_0 F_67_0 ?_
                refine P_iload_n (pc := 44) dX9_firstRepeat_44 rfl ?_
                refine P_iconst (pc := 45) (x := nI 1) dX9_firstRepeat_45 (by decide) ?_
                refine P_isubN (pc := 46) dX9_firstRepeat_46 (by first | omega | (have := hzl (e + 1); have := hzl (k + 2); have := hzl (k + 2 - 1); have := hzl (e + 1 - 1); omega)) ?_
                refine P_iald (pc := 47) (((e + 1) - 1)) (x := nI (zAt T ((e + 1) - 1))) dX9_firstRepeat_47 sh_68 rfl (by first | omega | (have := hzl (e + 1); have := hzl (k + 2); have := hzl (k + 2 - 1); have := hzl (e + 1 - 1); omega)) (by decide) ((hT.2.2.1 _ (by omega)).trans (congrArg nI (zAt_le (by omega)).symm)) ?_
                refine P_icmp_neN (pc := 48) (tgt := 53) dX9_firstRepeat_48 (by decide) (by first | omega | (have := hzl (e + 1); have := hzl (k + 2); have := hzl (k + 2 - 1); have := hzl (e + 1 - 1); omega)) (by first | omega | (have := hzl (e + 1); have := hzl (k + 2); have := hzl (k + 2 - 1); have := hzl (e + 1 - 1); omega)) (fun h48 => ?_) (fun h48 => ?_)
                · refine P_iincN (pc := 53) (c := 1) dX9_firstRepeat_53 rfl (by decide) (by decide) rfl ?_
                  refine P_goto (pc := 56) (tgt := 12) dX9_firstRepeat_56 (by decide) ?_
                  exact ihe (e + 1) (by omega) (by omega) (fun j hj => by
                    by_cases q : j < e + 1
                    · exact hinv2 j q
                    · rw [show j = e + 1 by omega]; exact decide_eq_false (fun z => h48 (by have z2 := z.2; unfold zCm at z2; rw [if_neg (by omega), if_neg (by omega)] at z2; exact Option.some.inj z2)))
                · refine P_iload_n (pc := 51) dX9_firstRepeat_51 rfl ?_
                  exact P_iret (pc := 52) dX9_firstRepeat_52 (⟨by rw [zRd, zLo_some (P := (fun k => (zLo (zRj T k) k).isSome)) (k := k + 2) (by omega) (by show (zLo (zRj T (k + 2)) (k + 2)).isSome = true; rw [zLo_some (k := e + 1) (by omega) (decide_eq_true ⟨h29, by unfold zCm; rw [if_neg (by omega), if_neg (by omega)]; exact congrArg some h48⟩) hinv2]; rfl) hinv]; rfl, rfl, rfl⟩)
        exact loopE (k + 3) 0 (by omega) (by omega) (fun j hj => by rw [show j = 0 by omega]; exact decide_eq_false (fun z => by have z2 := z.2; unfold zCm at z2; rw [if_neg (by omega), if_pos rfl] at z2; cases z2))
  show ZP _ _ _ _ [some _, none, none] _ _ _ _
  refine P_iconst (pc := 0) (x := nI 2) dX9_firstRepeat_0 (by decide) ?_
  refine P_istore_n (pc := 1) dX9_firstRepeat_1 (by decide) rfl ?_
  exact loop (T.1 + 2) 0 none (by omega) (by omega) (fun j hj => by
    have : j = 0 ∨ j = 1 := by omega
    rcases this with rfl | rfl
    · rfl
    · show (zLo (zRj T 1) 1).isSome = false
      rw [zLo_none (fun i hi => by rw [show i = 0 by omega]; exact decide_eq_false (fun z => by have z2 := z.2; unfold zCm at z2; rw [if_neg (by omega), if_pos rfl] at z2; cases z2))]
      rfl)
set_option maxRecDepth 20000 in
theorem c_tallyWrong {l : Launch} {D : va_G} {tw : Nat} {I : AI} {T : ZT} (hT : zTr T I) : ZP l D zm_X9_tallyWrong 0 (zent 3 [.ref 67, .ref 107]) [] I (zF tw) (fun v J G => v = none ∧ G = zF tw ∧ (∀ a, a ≠ 107 → J a = I a) ∧ ∀ x, J 107 x = I 107 x + nI (zTl T.2.2.2.2.2.2.1 T.2.2.2.2.2.2.2 T.1 x)) := by
  have h30 := hT.2.1
  have loop : ∀ (d : Nat) (n : Nat) (J : AI), T.1 - n < d → n ≤ T.1 → (∀ a, a ≠ 107 → J a = I a) → (∀ x, J 107 x = I 107 x + nI (zTl T.2.2.2.2.2.2.1 T.2.2.2.2.2.2.2 n x)) → ZP l D zm_X9_tallyWrong 2 [some (.ref 67), some (.ref 107), some (.int (nI n))] [] J (zF tw) (fun v J G => v = none ∧ G = zF tw ∧ (∀ a, a ≠ 107 → J a = I a) ∧ ∀ x, J 107 x = I 107 x + nI (zTl T.2.2.2.2.2.2.1 T.2.2.2.2.2.2.2 T.1 x)) := by
    intro d
    induction d with
    | zero =>
      intro n J hd
      exact absurd hd (by omega)
    | succ d ih =>
      intro n J hd hn hF htl
      refine P_iload_n (pc := 2) dX9_tallyWrong_2 rfl ?_
      refine P_aload_n (pc := 3) dX9_tallyWrong_3 rfl ?_
      refine P_geti (pc := 4) 9 2 (x := nI (T.1)) dX9_tallyWrong_4 fl_X9_19 sh_67 fi_9_2 ((congrFun (hF 67 (by decide)) 2).trans hT.1) ?_
      refine P_icmp_geN (pc := 7) (tgt := 37) dX9_tallyWrong_7 (by decide) (by first | omega | (have := hT.2.2.2.2.2 n; omega)) (by first | omega | (have := hT.2.2.2.2.2 n; omega)) (fun h7 => ?_) (fun h7 => ?_)
      · exact P_ret (pc := 37) dX9_tallyWrong_37 (⟨rfl, rfl, hF, fun x => by rw [show T.1 = n by omega]; exact htl x⟩)
      · refine P_aload_n (pc := 10) dX9_tallyWrong_10 rfl ?_
        refine P_getr (pc := 11) 9 1 dX9_tallyWrong_11 fl_X9_15 sh_67 fr_9_1 F_67_1 ?_
        refine P_iload_n (pc := 14) dX9_tallyWrong_14 rfl ?_
        refine P_zald (pc := 15) (n) (x := zb (T.2.2.2.2.2.2.2 n)) dX9_tallyWrong_15 sh_69 rfl (by first | omega | (have := hT.2.2.2.2.2 n; omega)) (by decide) ((congrFun (hF 69 (by decide)) _).trans (hT.2.2.2.1 _ (by omega))) ?_
        refine P_if_eqB (pc := 16) (tgt := 31) dX9_tallyWrong_16 (by decide) (fun h16 => ?_) (fun h16 => ?_)
        · refine P_iincN (pc := 31) (c := 1) dX9_tallyWrong_31 rfl (by decide) (by decide) rfl ?_
          refine P_goto (pc := 34) (tgt := 2) dX9_tallyWrong_34 (by decide) ?_
          exact ih (n + 1) J (by omega) (by omega) hF (fun x => by rw [zTl, h16, if_neg (fun z => absurd z.1 (by decide)), Nat.add_zero]; exact htl x)
        · refine P_aload_n (pc := 19) dX9_tallyWrong_19 rfl ?_
          refine P_aload_n (pc := 20) dX9_tallyWrong_20 rfl ?_
          refine P_getr (pc := 21) 9 0 dX9_tallyWrong_21 fl_X9_9 sh_67 fr_9_0 F_67_0 ?_
          refine P_iload_n (pc := 24) dX9_tallyWrong_24 rfl ?_
          refine P_iald (pc := 25) (n) (x := nI (T.2.2.2.2.2.2.1 n)) dX9_tallyWrong_25 sh_68 rfl (by first | omega | (have := hT.2.2.2.2.2 n; omega)) (by decide) ((congrFun (hF 68 (by decide)) _).trans (hT.2.2.1 _ (by omega))) ?_
          refine P_dup2 (pc := 26) dX9_tallyWrong_26 rfl rfl ?_
          refine P_iald (pc := 27) ((T.2.2.2.2.2.2.1 n)) (x := J 107 (T.2.2.2.2.2.2.1 n)) dX9_tallyWrong_27 sh_107 rfl (by first | omega | (have := hT.2.2.2.2.2 n; omega)) (by decide) (rfl) ?_
          refine P_iconst (pc := 28) (x := nI 1) dX9_tallyWrong_28 (by decide) ?_
          refine P_iadd (pc := 29) dX9_tallyWrong_29 ?_
          refine P_iast (pc := 30) ((T.2.2.2.2.2.2.1 n)) dX9_tallyWrong_30 sh_107 rfl (by first | omega | (have := hT.2.2.2.2.2 n; omega)) (by decide) ?_
          refine P_iincN (pc := 31) (c := 1) dX9_tallyWrong_31 rfl (by decide) (by decide) rfl ?_
          refine P_goto (pc := 34) (tgt := 2) dX9_tallyWrong_34 (by decide) ?_
          refine ih (n + 1) _ (by omega) (by omega) (fun a ha => (zu_o _ _ ha).trans (hF a ha)) (fun x => ?_)
          rw [zTl, h16]
          by_cases e : x = T.2.2.2.2.2.2.1 n
          · subst e
            rw [zu_s, htl, if_pos ⟨rfl, rfl⟩, ← nI_add, Int32.add_assoc]
          · rw [zu_n _ _ e, htl x, if_neg (fun z => e z.2.symm), Nat.add_zero]
  show ZP _ _ _ _ [some _, some _, none] _ _ _ _
  refine P_iconst (pc := 0) (x := nI 0) dX9_tallyWrong_0 (by decide) ?_
  refine P_istore_n (pc := 1) dX9_tallyWrong_1 (by decide) rfl ?_
  exact loop (T.1 + 1) 0 I (by omega) (by omega) (fun _ _ => rfl) (fun x => by show I 107 x = I 107 x + nI 0; rw [nI_0, Int32.add_zero])
