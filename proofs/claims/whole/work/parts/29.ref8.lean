set_option maxRecDepth 20000 in
theorem c_turned {l : Launch} {D : va_G} {tw : Nat} {I : AI} {s : Nat → Nat → Nat} (hR : RefV s I) (hB : RefN s) (hnc : s 111 0 ≤ 8) {c n : Nat} (hc : c < 8) (hn : n < 8) : ZP l D zm_X12_turned 0 (zent 4 [.ref 109, .int (nI c), .int (nI n)]) [] I (zF tw) (fun v J G => v = some (nI (zTd (s 111 0) (s 123) c n)) ∧ I = J ∧ G = zF tw) := by
  have loop : ∀ (d : Nat) (k : Nat), s 111 0 - k < d → k ≤ s 111 0 → (∀ j, j < k → (fun k => decide (¬ k = n ∧ s 123 (8 * c + k) < 10000)) j = false) → ZP l D zm_X12_turned 2 [some (.ref 109), some (.int (nI c)), some (.int (nI n)), some (.int (nI k))] [] I (zF tw) (fun v J G => v = some (nI (zTd (s 111 0) (s 123) c n)) ∧ I = J ∧ G = zF tw) := by
    intro d
    induction d with
    | zero =>
      intro k hd
      exact absurd hd (by omega)
    | succ d ih =>
      intro k hd hk hinv
      refine P_iload_n (pc := 2) dX12_turned_2 rfl ?_
      refine P_aload_n (pc := 3) dX12_turned_3 rfl ?_
      refine P_getr (pc := 4) 12 2 dX12_turned_4 fl_X12_13 sh_109 fr_12_2 F_109_2 ?_
      refine P_iconst (pc := 7) (x := nI 0) dX12_turned_7 (by decide) ?_
      refine P_iald (pc := 8) (0) (x := nI (s 111 0)) dX12_turned_8 sh_111 rfl (by first | omega | (have := hB.1 (8 * c + k); omega)) (by decide) (hR 111 _ rfl) ?_
      refine P_icmp_geN (pc := 9) (tgt := 42) dX12_turned_9 (by decide) (by first | omega | (have := hB.1 (8 * c + k); omega)) (by first | omega | (have := hB.1 (8 * c + k); omega)) (fun h9 => ?_) (fun h9 => ?_)
      · refine P_iload_n (pc := 42) dX12_turned_42 rfl ?_
        exact P_iret (pc := 43) dX12_turned_43 (⟨by unfold zTd; rw [zLo_none (P := (fun k => decide (¬ k = n ∧ s 123 (8 * c + k) < 10000))) (fun j hj => hinv j (by omega))], rfl, rfl⟩)
      · refine P_iload_n (pc := 12) dX12_turned_12 rfl ?_
        refine P_iload_n (pc := 13) dX12_turned_13 rfl ?_
        refine P_icmp_eqN (pc := 14) (tgt := 36) dX12_turned_14 (by decide) (by first | omega | (have := hB.1 (8 * c + k); omega)) (by first | omega | (have := hB.1 (8 * c + k); omega)) (fun h14 => ?_) (fun h14 => ?_)
        · refine P_iincN (pc := 36) (c := 1) dX12_turned_36 rfl (by decide) (by decide) rfl ?_
          refine P_goto (pc := 39) (tgt := 2) dX12_turned_39 (by decide) ?_
          exact ih (k + 1) (by omega) (by omega) (fun j hj => by
            by_cases e : j < k
            · exact hinv j e
            · rw [show j = k by omega]; exact decide_eq_false (by omega))
        · refine P_aload_n (pc := 17) dX12_turned_17 rfl ?_
          refine P_getr (pc := 18) 12 20 dX12_turned_18 fl_X12_50 sh_109 fr_12_20 F_109_20 ?_
          refine P_bipush (pc := 21) (x := nI 8) dX12_turned_21 (by decide) ?_
          refine P_iload_n (pc := 23) dX12_turned_23 rfl ?_
          refine P_imulN (pc := 24) dX12_turned_24 ?_
          refine P_iload_n (pc := 25) dX12_turned_25 rfl ?_
          refine P_iaddN (pc := 26) dX12_turned_26 ?_
          refine P_iald (pc := 27) (((8 * c) + k)) (x := nI (s 123 ((8 * c) + k))) dX12_turned_27 sh_123 rfl (by first | omega | (have := hB.1 (8 * c + k); omega)) (by decide) (hR 123 _ rfl) ?_
          refine P_sipush (pc := 28) (x := nI 10000) dX12_turned_28 (by decide) ?_
          refine P_icmp_geN (pc := 31) (tgt := 36) dX12_turned_31 (by decide) (by first | omega | (have := hB.1 (8 * c + k); omega)) (by first | omega | (have := hB.1 (8 * c + k); omega)) (fun h31 => ?_) (fun h31 => ?_)
          · refine P_iincN (pc := 36) (c := 1) dX12_turned_36 rfl (by decide) (by decide) rfl ?_
            refine P_goto (pc := 39) (tgt := 2) dX12_turned_39 (by decide) ?_
            exact ih (k + 1) (by omega) (by omega) (fun j hj => by
              by_cases e : j < k
              · exact hinv j e
              · rw [show j = k by omega]; exact decide_eq_false (by omega))
          · refine P_iload_n (pc := 34) dX12_turned_34 rfl ?_
            exact P_iret (pc := 35) dX12_turned_35 (⟨by unfold zTd; rw [zLo_some (P := (fun k => decide (¬ k = n ∧ s 123 (8 * c + k) < 10000))) (k := k) (by omega) (decide_eq_true (by omega)) hinv], rfl, rfl⟩)
  show ZP _ _ _ _ [some _, some _, some _, none] _ _ _ _
  refine P_iconst (pc := 0) (x := nI 0) dX12_turned_0 (by decide) ?_
  refine P_istore_n (pc := 1) dX12_turned_1 (by decide) rfl ?_
  exact loop (s 111 0 + 1) 0 (by omega) (by omega) (fun j hj => by omega)
set_option maxRecDepth 20000 in
theorem c_lies {l : Launch} {D : va_G} {tw : Nat} {I : AI} {s : Nat → Nat → Nat} (hR : RefV s I) (hT : RefT s) (hS : RefS s 0) : ZP l D zm_X12_lies 0 (zent 4 [.ref 109]) [] I (zF tw) (fun v J G => v = some (aLies s) ∧ I = J ∧ G = zF tw) := by
  have hB := hT.1
  have hS1 := hS.1
  have loop : ∀ (d : Nat) (k : Nat) (v3 : Option Value), s 122 0 - k < d → k ≤ s 122 0 → ZP l D zm_X12_lies 4 [some (.ref 109), some (.int (zBits (zLy s) k)), some (.int (nI k)), v3] [] I (zF tw) (fun v J G => v = some (aLies s) ∧ I = J ∧ G = zF tw) := by
    intro d
    induction d with
    | zero =>
      intro k v3 hd
      exact absurd hd (by omega)
    | succ d ih =>
      intro k v3 hd hk
      refine P_iload_n (pc := 4) dX12_lies_4 rfl ?_
      refine P_aload_n (pc := 5) dX12_lies_5 rfl ?_
      refine P_getr (pc := 6) 12 17 dX12_lies_6 fl_X12_47 sh_109 fr_12_17 F_109_17 ?_
      refine P_iconst (pc := 9) (x := nI 0) dX12_lies_9 (by decide) ?_
      refine P_iald (pc := 10) (0) (x := nI (s 122 0)) dX12_lies_10 sh_122 rfl (by omega) (by decide) (hR 122 _ rfl) ?_
      refine P_icmp_geN (pc := 11) (tgt := 82) dX12_lies_11 (by decide) (by omega) (by omega) (fun h11 => ?_) (fun h11 => ?_)
      · refine P_iload_n (pc := 82) dX12_lies_82 rfl ?_
        refine P_iret (pc := 83) dX12_lies_83 ?_
        have hk2 : k = s 122 0 := by omega
        subst hk2
        exact ⟨rfl, rfl, rfl⟩
      · refine P_iconst (pc := 14) (x := nI 1) dX12_lies_14 (by decide) ?_
        refine P_iconst (pc := 15) (x := nI 3) dX12_lies_15 (by decide) ?_
        refine P_iload_n (pc := 16) dX12_lies_16 rfl ?_
        refine P_imulN (pc := 17) dX12_lies_17 ?_
        refine P_iaddN (pc := 18) dX12_lies_18 ?_
        refine P_istore_n (pc := 19) dX12_lies_19 (by decide) rfl ?_
        have hs1 : s 122 (1 + 3 * k) < 8 := by have := (hS.2 k (by omega)).1; simpa using this
        have hs2 : s 122 (1 + 3 * k + 1) < 8 := by have := (hS.2 k (by omega)).2.1; simpa using this
        have hs3 : s 122 (1 + 3 * k + 2) < 8 := by have := (hS.2 k (by omega)).2.2; simpa using this
        refine P_iload_n (pc := 20) dX12_lies_20 rfl ?_
        refine P_aload_n (pc := 21) dX12_lies_21 rfl ?_
        refine P_getr (pc := 22) 12 17 dX12_lies_22 fl_X12_47 sh_109 fr_12_17 F_109_17 ?_
        refine P_iload_n (pc := 25) dX12_lies_25 rfl ?_
        refine P_iald (pc := 26) ((1 + (3 * k))) (x := nI (s 122 (1 + (3 * k)))) dX12_lies_26 sh_122 rfl (by omega) (by decide) (hR 122 _ rfl) ?_
        refine P_aload_n (pc := 27) dX12_lies_27 rfl ?_
        refine P_getr (pc := 28) 12 17 dX12_lies_28 fl_X12_47 sh_109 fr_12_17 F_109_17 ?_
        refine P_iload_n (pc := 31) dX12_lies_31 rfl ?_
        refine P_iconst (pc := 32) (x := nI 1) dX12_lies_32 (by decide) ?_
        refine P_iaddN (pc := 33) dX12_lies_33 ?_
        refine P_iald (pc := 34) (((1 + (3 * k)) + 1)) (x := nI (s 122 ((1 + (3 * k)) + 1))) dX12_lies_34 sh_122 rfl (by omega) (by decide) (hR 122 _ rfl) ?_
        refine P_sel2 (pc := 35) (if zLy s k = true then nI 1 <<< (nI k &&& 31) else nI 0) 74 (fun k74_35 => ?_) ?_
        · refine P_icmp_eqN (pc := 35) (tgt := 71) dX12_lies_35 (by decide) (by omega) (by omega) (fun h35 => ?_) (fun h35 => ?_)
          · refine P_iconst (pc := 71) (x := nI 1) dX12_lies_71 (by decide) ?_
            refine P_iload_n (pc := 72) dX12_lies_72 rfl ?_
            refine P_ishl (pc := 73) dX12_lies_73 ?_
            exact k74_35 _ (by rw [if_pos (by simp only [zLy, Bool.not_eq_true', Bool.and_eq_false_iff]; exact Or.inl (decide_eq_false (fun z => z h35)))])
          · refine P_aload_n (pc := 38) dX12_lies_38 rfl ?_
            refine P_aload_n (pc := 39) dX12_lies_39 rfl ?_
            refine P_getr (pc := 40) 12 17 dX12_lies_40 fl_X12_47 sh_109 fr_12_17 F_109_17 ?_
            refine P_iload_n (pc := 43) dX12_lies_43 rfl ?_
            refine P_iald (pc := 44) ((1 + (3 * k))) (x := nI (s 122 (1 + (3 * k)))) dX12_lies_44 sh_122 rfl (by omega) (by decide) (hR 122 _ rfl) ?_
            refine P_aload_n (pc := 45) dX12_lies_45 rfl ?_
            refine P_getr (pc := 46) 12 17 dX12_lies_46 fl_X12_47 sh_109 fr_12_17 F_109_17 ?_
            refine P_iload_n (pc := 49) dX12_lies_49 rfl ?_
            refine P_iconst (pc := 50) (x := nI 2) dX12_lies_50 (by decide) ?_
            refine P_iaddN (pc := 51) dX12_lies_51 ?_
            refine P_iald (pc := 52) (((1 + (3 * k)) + 2)) (x := nI (s 122 ((1 + (3 * k)) + 2))) dX12_lies_52 sh_122 rfl (by omega) (by decide) (hR 122 _ rfl) ?_
            refine P_aload_n (pc := 53) dX12_lies_53 rfl ?_
            refine P_getr (pc := 54) 12 17 dX12_lies_54 fl_X12_47 sh_109 fr_12_17 F_109_17 ?_
            refine P_iload_n (pc := 57) dX12_lies_57 rfl ?_
            refine P_iconst (pc := 58) (x := nI 1) dX12_lies_58 (by decide) ?_
            refine P_iaddN (pc := 59) dX12_lies_59 ?_
            refine P_iald (pc := 60) (((1 + (3 * k)) + 1)) (x := nI (s 122 ((1 + (3 * k)) + 1))) dX12_lies_60 sh_122 rfl (by omega) (by decide) (hR 122 _ rfl) ?_
            obtain ⟨_, _, _, k1, rfl, rfl, rfl⟩ := c_isOnWay (l := l) (D := D) (tw := tw) hR hB (c := (s 122 (1 + (3 * k)))) (n := (s 122 ((1 + (3 * k)) + 2))) (t := (s 122 ((1 + (3 * k)) + 1))) hs1 hs3 hs2
            refine P_callV (pc := 61) (S := [_]) (As := [_, _, _]) k1 dX12_lies_61 ok_X12_isOnWay ml_X12_155 iv_X12_isOnWay ⟨by decide, by decide⟩ (zret_b (zOnB (s 123) (s 124) (s 122 (1 + (3 * k))) (s 122 ((1 + (3 * k)) + 2)) (s 122 ((1 + (3 * k)) + 1)))) rfl ⟨rfl, by decide⟩ sh_109 ⟨by decide, rfl⟩ (Nat.le_of_ble_eq_true rfl) ?_
            refine P_if_eqB (pc := 64) (tgt := 71) dX12_lies_64 (by decide) (fun h64 => ?_) (fun h64 => ?_)
            · refine P_iconst (pc := 71) (x := nI 1) dX12_lies_71 (by decide) ?_
              refine P_iload_n (pc := 72) dX12_lies_72 rfl ?_
              refine P_ishl (pc := 73) dX12_lies_73 ?_
              exact k74_35 _ (by rw [if_pos (by simp only [zLy, h64, Bool.and_false, Bool.not_false])])
            · refine P_iconst (pc := 67) (x := nI 0) dX12_lies_67 (by decide) ?_
              refine P_goto (pc := 68) (tgt := 74) dX12_lies_68 (by decide) ?_
              exact k74_35 _ (by rw [if_neg (by simp only [zLy, h64, Bool.and_true, decide_eq_true h35, Bool.not_true]; decide)])
        · refine P_ior (pc := 74) dX12_lies_74 ?_
          refine P_istore_n (pc := 75) dX12_lies_75 (by decide) rfl ?_
          refine P_iincN (pc := 76) (c := 1) dX12_lies_76 rfl (by decide) (by decide) rfl ?_
          refine P_goto (pc := 79) (tgt := 4) dX12_lies_79 (by decide) ?_
          exact ih (k + 1) _ (by omega) (by omega)
  show ZP _ _ _ _ [some _, none, none, none] _ _ _ _
  refine P_iconst (pc := 0) (x := nI 0) dX12_lies_0 (by decide) ?_
  refine P_istore_n (pc := 1) dX12_lies_1 (by decide) rfl ?_
  refine P_iconst (pc := 2) (x := nI 0) dX12_lies_2 (by decide) ?_
  refine P_istore_n (pc := 3) dX12_lies_3 (by decide) rfl ?_
  exact loop (s 122 0 + 1) 0 none (by omega) (by omega)
set_option maxRecDepth 20000 in
theorem c_best {l : Launch} {D : va_G} {tw : Nat} {I : AI} {s : Nat → Nat → Nat} (hR : RefV s I) (hT : RefT s) (hP : RefP s) (hK : RefK s 0) {x y : Int32} : ZP l D zm_X12_best 0 (zent 6 [.ref 109, .int x, .int y]) [] I (zF tw) (fun v J G => v = some (aBest s x y) ∧ G = zF tw ∧ (zFG I J)) := by
  have hP0 := hP.1
  have hnc := hT.2.1
  show ZP _ _ _ _ [some _, some _, some _, none, none, none] _ _ _ _
  refine P_aload_n (pc := 0) dX12_best_0 rfl ?_
  refine P_iload_n (pc := 1) dX12_best_1 rfl ?_
  obtain ⟨_, _, _, k1, rfl, rfl, rfl⟩ := c_isWalker (l := l) (D := D) (tw := tw) (x := x) hR (by omega)
  refine P_callV (pc := 2) (S := []) (As := [_]) k1 dX12_best_2 ok_X12_isWalker ml_X12_152 iv_X12_isWalker ⟨by decide, by decide⟩ (zret_b (zix x (s 116 0))) rfl ⟨rfl, by decide⟩ sh_109 ⟨by decide, rfl⟩ (Nat.le_of_ble_eq_true rfl) ?_
  refine P_if_eqB (pc := 5) (tgt := 17) dX12_best_5 (by decide) (fun h5 => ?_) (fun h5 => ?_)
  · refine P_iconst (pc := 17) (x := (-1)) dX12_best_17 (by decide) ?_
    exact P_iret (pc := 18) dX12_best_18 (⟨by unfold aBest; rw [if_neg (by intro z; simp_all)], rfl, zFG.rf⟩)
  · obtain ⟨i, hl_i, rfl⟩ := zix_t h5 (by omega)
    refine P_iload_n (pc := 8) dX12_best_8 rfl ?_
    refine P_iconst (pc := 9) (x := nI 0) dX12_best_9 (by decide) ?_
    refine P_iconst (pc := 10) (x := nI 1) dX12_best_10 (by decide) ?_
    obtain ⟨_, _, _, k2, rfl, rfl, rfl⟩ := c_inN (l := l) (D := D) (tw := tw) (x := y) (m := 1) (by omega)
    refine P_callS (pc := 11) (S := []) (As := [_, _, _]) k2 dX12_best_11 ok_X12_in ml_X12_94 is_X12_in ⟨by decide, by decide⟩ (zret_b (zix y (1 + 1))) rfl ⟨rfl, by decide⟩ (Nat.le_of_ble_eq_true rfl) ?_
    refine P_if_neB (pc := 14) (tgt := 19) dX12_best_14 (by decide) (fun h14 => ?_) (fun h14 => ?_)
    · obtain ⟨j, hl_j, rfl⟩ := zix_t h14 (by omega)
      refine P_bipush (pc := 19) (x := (-4)) dX12_best_19 (by decide) ?_
      refine P_istore_n (pc := 21) dX12_best_21 (by decide) rfl ?_
      refine P_bipush (pc := 22) (x := (-4)) dX12_best_22 (by decide) ?_
      refine P_istore (pc := 24) dX12_best_24 (by decide) rfl ?_
      refine P_iconst (pc := 26) (x := nI 0) dX12_best_26 (by decide) ?_
      refine P_istore (pc := 27) dX12_best_27 (by decide) rfl ?_
      have hw := hP.2 i hl_i
      have loop : ∀ (d : Nat) (c : Nat) (J : AI) (pk : Option (Nat × Int32)), s 111 0 - c < d → c ≤ s 111 0 → zFG I J → pk = zPkL (fun c => nI (zTrS s 0 (s 117 i) (s 118 i) (s 119 i) c).2.2.2.1) c → ZP l D zm_X12_best 29 [some (.ref 109), some (.int (nI i)), some (.int (nI j)), some (.int (zp2 pk)), some (.int (zp1 pk)), some (.int (nI c))] [] J (zF tw) (fun v J G => v = some (aBest s (nI i) (nI j)) ∧ G = zF tw ∧ (zFG I J)) := by
        intro d
        induction d with
        | zero =>
          intro c J pk hd
          exact absurd hd (by omega)
        | succ d ih =>
          intro c J pk hd hc hF hpk
          refine P_iload (pc := 29) dX12_best_29 rfl ?_
          refine P_aload_n (pc := 31) dX12_best_31 rfl ?_
          refine P_getr (pc := 32) 12 2 dX12_best_32 fl_X12_13 sh_109 fr_12_2 F_109_2 ?_
          refine P_iconst (pc := 35) (x := nI 0) dX12_best_35 (by decide) ?_
          refine P_iald (pc := 36) (0) (x := nI (s 111 0)) dX12_best_36 sh_111 rfl (by omega) (by decide) ((hF.R hR) 111 _ rfl) ?_
          refine P_icmp_geN (pc := 37) (tgt := 95) dX12_best_37 (by decide) (by omega) (by omega) (fun h37 => ?_) (fun h37 => ?_)
          · have hc2 : c = s 111 0 := by omega
            subst hc2
            have hpk2 : pk = zBp s i := hpk
            subst hpk2
            refine P_iload_n (pc := 95) dX12_best_95 rfl ?_
            refine P_if_neN (pc := 96) (tgt := 104) dX12_best_96 (by decide) (by omega) (fun h96 => ?_) (fun h96 => ?_)
            · refine P_iload_n (pc := 104) dX12_best_104 rfl ?_
              exact P_iret (pc := 105) dX12_best_105 (⟨by unfold aBest; rw [if_pos ⟨h5, h14⟩, nI_clamp (by omega), nI_clamp (by omega)]; first | rw [if_pos (by omega)] | rw [if_neg (by omega)], rfl, hF⟩)
            · refine P_iload (pc := 99) dX12_best_99 rfl ?_
              refine P_goto (pc := 101) (tgt := 105) dX12_best_101 (by decide) ?_
              exact P_iret (pc := 105) dX12_best_105 (⟨by unfold aBest; rw [if_pos ⟨h5, h14⟩, nI_clamp (by omega), nI_clamp (by omega)]; first | rw [if_pos (by omega)] | rw [if_neg (by omega)], rfl, hF⟩)
          · refine P_aload_n (pc := 40) dX12_best_40 rfl ?_
            refine P_iconst (pc := 41) (x := nI 0) dX12_best_41 (by decide) ?_
            refine P_aload_n (pc := 42) dX12_best_42 rfl ?_
            refine P_getr (pc := 43) 12 8 dX12_best_43 fl_X12_32 sh_109 fr_12_8 F_109_8 ?_
            refine P_iload_n (pc := 46) dX12_best_46 rfl ?_
            refine P_iald (pc := 47) (i) (x := nI (s 117 i)) dX12_best_47 sh_117 rfl (by omega) (by decide) ((hF.R hR) 117 _ rfl) ?_
            refine P_aload_n (pc := 48) dX12_best_48 rfl ?_
            refine P_getr (pc := 49) 12 9 dX12_best_49 fl_X12_35 sh_109 fr_12_9 F_109_9 ?_
            refine P_iload_n (pc := 52) dX12_best_52 rfl ?_
            refine P_iald (pc := 53) (i) (x := nI (s 118 i)) dX12_best_53 sh_118 rfl (by omega) (by decide) ((hF.R hR) 118 _ rfl) ?_
            refine P_aload_n (pc := 54) dX12_best_54 rfl ?_
            refine P_getr (pc := 55) 12 10 dX12_best_55 fl_X12_38 sh_109 fr_12_10 F_109_10 ?_
            refine P_iload_n (pc := 58) dX12_best_58 rfl ?_
            refine P_iald (pc := 59) (i) (x := nI (s 119 i)) dX12_best_59 sh_119 rfl (by omega) (by decide) ((hF.R hR) 119 _ rfl) ?_
            refine P_iload (pc := 60) dX12_best_60 rfl ?_
            obtain ⟨_, K, _, kg, rfl, rfl, hG⟩ := c_go (l := l) (D := D) (tw := tw) (b := 0) (kd := s 117 i) (fm := s 118 i) (a := s 119 i) (to := c) (hF.R hR) hT (by omega) (by omega) hK.1 (by omega) (by omega) (by omega)
            refine P_callV (pc := 62) (S := []) (As := [_, _, _, _, _]) kg dX12_best_62 ok_X12_go ml_X12_189 iv_X12_go ⟨by decide, by decide⟩ zret_v rfl ⟨rfl, by decide⟩ sh_109 ⟨by decide, rfl⟩ (Nat.le_of_ble_eq_true rfl) ?_
            rcases hp : zPkL (fun c => nI (zTrS s 0 (s 117 i) (s 118 i) (s 119 i) c).2.2.2.1) c with _ | ⟨q, v⟩
            · rw [hp] at hpk; subst hpk
              refine P_iload (pc := 65) dX12_best_65 rfl ?_
              refine P_bipush (pc := 67) (x := (-4)) dX12_best_67 (by decide) ?_
              refine P_icmp_eqT (pc := 69) (tgt := 80) dX12_best_69 (by decide) (by decide) ?_
              refine P_iload (pc := 80) dX12_best_80 rfl ?_
              refine P_istore (pc := 82) dX12_best_82 (by decide) rfl ?_
              refine P_aload_n (pc := 84) dX12_best_84 rfl ?_
              refine P_geti (pc := 85) 12 26 (x := nI ((zTrS s 0 (s 117 i) (s 118 i) (s 119 i) c).2.2.2.1)) dX12_best_85 fl_X12_179 sh_109 fi_12_26 (hG.2.2.2.2.1) ?_
              refine P_istore_n (pc := 88) dX12_best_88 (by decide) rfl ?_
              refine P_iincN (pc := 89) (c := 1) dX12_best_89 rfl (by decide) (by decide) rfl ?_
              refine P_goto (pc := 92) (tgt := 29) dX12_best_92 (by decide) ?_
              exact ih (c + 1) K (some (c, (nI (zTrS s 0 (s 117 i) (s 118 i) (s 119 i) c).2.2.2.1))) (by omega) (by omega) (hF.trans hG.1) (zPkL_n hp).symm
            · have hq := zPkL_lt hp
              rw [hp] at hpk; subst hpk
              refine P_iload (pc := 65) dX12_best_65 rfl ?_
              refine P_bipush (pc := 67) (x := (-4)) dX12_best_67 (by decide) ?_
              refine P_icmp_eqF (pc := 69) (tgt := 80) dX12_best_69 (by decide) (zne4 (by omega)) ?_
              refine P_aload_n (pc := 72) dX12_best_72 rfl ?_
              refine P_geti (pc := 73) 12 26 (x := nI ((zTrS s 0 (s 117 i) (s 118 i) (s 119 i) c).2.2.2.1)) dX12_best_73 fl_X12_179 sh_109 fi_12_26 (hG.2.2.2.2.1) ?_
              refine P_iload_n (pc := 76) dX12_best_76 rfl ?_
              refine P_icmp_ge (pc := 77) (tgt := 89) dX12_best_77 (by decide) (fun h77 => ?_) (fun h77 => ?_)
              · refine P_iincN (pc := 89) (c := 1) dX12_best_89 rfl (by decide) (by decide) rfl ?_
                refine P_goto (pc := 92) (tgt := 29) dX12_best_92 (by decide) ?_
                exact ih (c + 1) K (some (q, v)) (by omega) (by omega) (hF.trans hG.1) (zPkL_f hp (Int32.not_lt.mpr h77)).symm
              · refine P_iload (pc := 80) dX12_best_80 rfl ?_
                refine P_istore (pc := 82) dX12_best_82 (by decide) rfl ?_
                refine P_aload_n (pc := 84) dX12_best_84 rfl ?_
                refine P_geti (pc := 85) 12 26 (x := nI ((zTrS s 0 (s 117 i) (s 118 i) (s 119 i) c).2.2.2.1)) dX12_best_85 fl_X12_179 sh_109 fi_12_26 (hG.2.2.2.2.1) ?_
                refine P_istore_n (pc := 88) dX12_best_88 (by decide) rfl ?_
                refine P_iincN (pc := 89) (c := 1) dX12_best_89 rfl (by decide) (by decide) rfl ?_
                refine P_goto (pc := 92) (tgt := 29) dX12_best_92 (by decide) ?_
                exact ih (c + 1) K (some (c, (nI (zTrS s 0 (s 117 i) (s 118 i) (s 119 i) c).2.2.2.1))) (by omega) (by omega) (hF.trans hG.1) (zPkL_t hp (Int32.not_le.mp h77)).symm
      exact loop (s 111 0 + 1) 0 I none (by omega) (by omega) zFG.rf rfl
    · refine P_iconst (pc := 17) (x := (-1)) dX12_best_17 (by decide) ?_
      exact P_iret (pc := 18) dX12_best_18 (⟨by unfold aBest; rw [if_neg (by intro z; simp_all)], rfl, zFG.rf⟩)
