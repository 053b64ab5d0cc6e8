theorem zSign_s {gc gt gn : Nat → Nat} {c a n : Nat} : zSign gc gt gn c a (n + 1) = if gc n = c ∧ gt n = a then some (gn n) else zSign gc gt gn c a n := rfl
theorem zOnX_f {nc : Nat} {nr : Nat → Nat} {c : Nat} {cm : Option Nat} : zOnX false nc nr c cm = zOnF nc nr c cm := rfl
theorem zOnX_t {nc : Nat} {nr : Nat → Nat} {c : Nat} {cm : Option Nat} : zOnX true nc nr c cm = zOnL nc nr c cm := rfl
/-- signs of the block of 32 at b: its k-th sign's corner, aim, next -/
abbrev sgC (s : Nat → Nat → Nat) (b k : Nat) : Nat := s 122 (b + 1 + 3 * k)
abbrev sgT (s : Nat → Nat → Nat) (b k : Nat) : Nat := s 122 (b + 1 + 3 * k + 1)
abbrev sgN (s : Nat → Nat → Nat) (b k : Nat) : Nat := s 122 (b + 1 + 3 * k + 2)
/-- what the signs of a block say at c for aim a -/
abbrev sgAt (s : Nat → Nat → Nat) (b a c : Nat) : Option Nat := zSign (sgC s b) (sgT s b) (sgN s b) c a (s 122 b)
set_option maxRecDepth 20000 in
theorem c_strangerStep {l : Launch} {D : va_G} {tw : Nat} {I : AI} {s : Nat → Nat → Nat} (hR : RefV s I) (hB : RefN s) (hnc : s 111 0 ≤ 8) {b c a : Nat} {cm : Option Nat} (hb : b ≤ 352) (hgn : s 122 b ≤ 9) (hsg : ∀ k, k < s 122 b → sgC s b k < 8 ∧ sgT s b k < 8 ∧ sgN s b k < 8) (hc : c < 8) (ha : a < 8) (hcm : ∀ m, cm = some m → m < 8 ∧ s 123 (8 * c + m) < 10000) : ZP l D zm_X12_strangerStep 0 (zent 8 [.ref 109, .int (nI b), .int (nI c), .int (zo (-1) cm), .int (nI a)]) [] I (zF tw) (fun v J G => v = some (zo (-4) (zStr (s 111 0) (s 123) (sgAt s b a c) c cm)) ∧ I = J ∧ G = zF tw) := by
  have loop : ∀ (d : Nat) (k : Nat) (v7 : Option Value), s 122 b - k < d → k ≤ s 122 b → ZP l D zm_X12_strangerStep 7 [some (.ref 109), some (.int (nI b)), some (.int (nI c)), some (.int (zo (-1) cm)), some (.int (nI a)), some (.int (zo (-4) (zSign (sgC s b) (sgT s b) (sgN s b) c a k))), some (.int (nI k)), v7] [] I (zF tw) (fun v J G => v = some (zo (-4) (zStr (s 111 0) (s 123) (sgAt s b a c) c cm)) ∧ I = J ∧ G = zF tw) := by
    intro d
    induction d with
    | zero =>
      intro k v7 hd
      exact absurd hd (by omega)
    | succ d ih =>
      intro k v7 hd hn
      refine P_iload (pc := 7) dX12_strangerStep_7 rfl ?_
      refine P_aload_n (pc := 9) dX12_strangerStep_9 rfl ?_
      refine P_getr (pc := 10) 12 17 dX12_strangerStep_10 fl_X12_47 sh_109 fr_12_17 F_109_17 ?_
      refine P_iload_n (pc := 13) dX12_strangerStep_13 rfl ?_
      refine P_iconst (pc := 14) (x := nI 0) dX12_strangerStep_14 (by decide) ?_
      refine P_iaddN (pc := 15) dX12_strangerStep_15 ?_
      refine P_iald (pc := 16) (b) (x := nI (s 122 b)) dX12_strangerStep_16 sh_122 rfl (by omega) (by decide) (hR 122 _ rfl) ?_
      refine P_icmp_geN (pc := 17) (tgt := 77) dX12_strangerStep_17 (by decide) (by omega) (by omega) (fun h17 => ?_) (fun h17 => ?_)
      · have hk : k = s 122 b := by omega
        subst hk
        have hlt : ∀ p, sgAt s b a c = some p → p < 8 := fun p e => zSign_lt (b := 8) (fun j hj => (hsg j hj).2.2) e
        show ZP l D zm_X12_strangerStep 77 [some (.ref 109), some (.int (nI b)), some (.int (nI c)), some (.int (zo (-1) cm)), some (.int (nI a)), some (.int (zo (-4) (sgAt s b a c))), _, _] [] I (zF tw) _
        generalize sgAt s b a c = g at hlt ⊢
        cases g with
        | none =>
          refine P_iload (pc := 77) dX12_strangerStep_77 rfl ?_
          refine P_bipush (pc := 79) (x := (-4)) dX12_strangerStep_79 (by decide) ?_
          refine P_icmp_eqT (pc := 81) (tgt := 107) dX12_strangerStep_81 (by decide) (by decide) ?_
          refine P_aload_n (pc := 107) dX12_strangerStep_107 rfl ?_
          refine P_iload_n (pc := 108) dX12_strangerStep_108 rfl ?_
          refine P_iload_n (pc := 109) dX12_strangerStep_109 rfl ?_
          refine P_iconst (pc := 110) (x := nI 0) dX12_strangerStep_110 (by decide) ?_
          obtain ⟨_, _, _, k9, rfl, rfl, rfl⟩ := c_onFrom (l := l) (D := D) (tw := tw) (b := false) hR hB hnc hc hcm
          refine P_callV (pc := 111) (S := []) (As := [_, _, _]) k9 dX12_strangerStep_111 ok_X12_onFrom ml_X12_158 iv_X12_onFrom ⟨by decide, by decide⟩ (zret_i _) rfl ⟨rfl, by decide⟩ sh_109 ⟨by decide, rfl⟩ (Nat.le_of_ble_eq_true rfl) ?_
          exact P_iret (pc := 114) dX12_strangerStep_114 (⟨rfl, rfl, rfl⟩)
        | some p =>
          have hp := hlt p rfl
          have hpn := hB.1 (8 * c + p)
          refine P_iload (pc := 77) dX12_strangerStep_77 rfl ?_
          refine P_bipush (pc := 79) (x := (-4)) dX12_strangerStep_79 (by decide) ?_
          refine P_icmp_eqF (pc := 81) (tgt := 107) dX12_strangerStep_81 (by decide) (zne4 (by omega)) ?_
          refine P_aload_n (pc := 84) dX12_strangerStep_84 rfl ?_
          refine P_getr (pc := 85) 12 20 dX12_strangerStep_85 fl_X12_50 sh_109 fr_12_20 F_109_20 ?_
          refine P_bipush (pc := 88) (x := nI 8) dX12_strangerStep_88 (by decide) ?_
          refine P_iload_n (pc := 90) dX12_strangerStep_90 rfl ?_
          refine P_imulN (pc := 91) dX12_strangerStep_91 ?_
          refine P_iload (pc := 92) dX12_strangerStep_92 rfl ?_
          refine P_iaddN (pc := 94) dX12_strangerStep_94 ?_
          refine P_iald (pc := 95) (((8 * c) + p)) (x := nI (s 123 ((8 * c) + p))) dX12_strangerStep_95 sh_123 rfl (by omega) (by decide) (hR 123 _ rfl) ?_
          refine P_sipush (pc := 96) (x := nI 10000) dX12_strangerStep_96 (by decide) ?_
          refine P_icmp_geN (pc := 99) (tgt := 107) dX12_strangerStep_99 (by decide) (by omega) (by omega) (fun h99 => ?_) (fun h99 => ?_)
          · refine P_aload_n (pc := 107) dX12_strangerStep_107 rfl ?_
            refine P_iload_n (pc := 108) dX12_strangerStep_108 rfl ?_
            refine P_iload_n (pc := 109) dX12_strangerStep_109 rfl ?_
            refine P_iconst (pc := 110) (x := nI 0) dX12_strangerStep_110 (by decide) ?_
            obtain ⟨_, _, _, k9, rfl, rfl, rfl⟩ := c_onFrom (l := l) (D := D) (tw := tw) (b := false) hR hB hnc hc hcm
            refine P_callV (pc := 111) (S := []) (As := [_, _, _]) k9 dX12_strangerStep_111 ok_X12_onFrom ml_X12_158 iv_X12_onFrom ⟨by decide, by decide⟩ (zret_i _) rfl ⟨rfl, by decide⟩ sh_109 ⟨by decide, rfl⟩ (Nat.le_of_ble_eq_true rfl) ?_
            exact P_iret (pc := 114) dX12_strangerStep_114 (⟨by show _ = some (zo (-4) (if s 123 (8 * c + p) < 10000 then some p else zOnF (s 111 0) (s 123) c cm)); rw [if_neg (by omega)]; rfl, rfl, rfl⟩)
          · refine P_iload (pc := 102) dX12_strangerStep_102 rfl ?_
            refine P_goto (pc := 104) (tgt := 114) dX12_strangerStep_104 (by decide) ?_
            exact P_iret (pc := 114) dX12_strangerStep_114 (⟨by show _ = some (zo (-4) (if s 123 (8 * c + p) < 10000 then some p else zOnF (s 111 0) (s 123) c cm)); rw [if_pos (by omega)], rfl, rfl⟩)
      · refine P_iload_n (pc := 20) dX12_strangerStep_20 rfl ?_
        refine P_iconst (pc := 21) (x := nI 1) dX12_strangerStep_21 (by decide) ?_
        refine P_iaddN (pc := 22) dX12_strangerStep_22 ?_
        refine P_iconst (pc := 23) (x := nI 3) dX12_strangerStep_23 (by decide) ?_
        refine P_iload (pc := 24) dX12_strangerStep_24 rfl ?_
        refine P_imulN (pc := 26) dX12_strangerStep_26 ?_
        refine P_iaddN (pc := 27) dX12_strangerStep_27 ?_
        refine P_istore (pc := 28) dX12_strangerStep_28 (by decide) rfl ?_
        have hs1 : s 122 (b + 1 + 3 * k) < 8 := (hsg k (by omega)).1
        have hs2 : s 122 (b + 1 + 3 * k + 1) < 8 := (hsg k (by omega)).2.1
        have hs3 : s 122 (b + 1 + 3 * k + 2) < 8 := (hsg k (by omega)).2.2
        refine P_aload_n (pc := 30) dX12_strangerStep_30 rfl ?_
        refine P_getr (pc := 31) 12 17 dX12_strangerStep_31 fl_X12_47 sh_109 fr_12_17 F_109_17 ?_
        refine P_iload (pc := 34) dX12_strangerStep_34 rfl ?_
        refine P_iald (pc := 36) (((b + 1) + (3 * k))) (x := nI (s 122 ((b + 1) + (3 * k)))) dX12_strangerStep_36 sh_122 rfl (by omega) (by decide) (hR 122 _ rfl) ?_
        refine P_iload_n (pc := 37) dX12_strangerStep_37 rfl ?_
        refine P_sel2 (pc := 38) (zo (-4) (zSign (sgC s b) (sgT s b) (sgN s b) c a (k + 1))) 69 (fun k69_38 => ?_) ?_
        · refine P_icmp_neN (pc := 38) (tgt := 67) dX12_strangerStep_38 (by decide) (by omega) (by omega) (fun h38 => ?_) (fun h38 => ?_)
          · refine P_iload (pc := 67) dX12_strangerStep_67 rfl ?_
            exact k69_38 _ (by
              rw [zSign_s]
              first
                | (rw [if_pos (show s 122 (b + 1 + 3 * k) = c ∧ s 122 (b + 1 + 3 * k + 1) = a from ⟨by omega, by omega⟩)]; rfl)
                | (rw [if_neg (show ¬ (s 122 (b + 1 + 3 * k) = c ∧ s 122 (b + 1 + 3 * k + 1) = a) from by omega)]))
          · refine P_aload_n (pc := 41) dX12_strangerStep_41 rfl ?_
            refine P_getr (pc := 42) 12 17 dX12_strangerStep_42 fl_X12_47 sh_109 fr_12_17 F_109_17 ?_
            refine P_iload (pc := 45) dX12_strangerStep_45 rfl ?_
            refine P_iconst (pc := 47) (x := nI 1) dX12_strangerStep_47 (by decide) ?_
            refine P_iaddN (pc := 48) dX12_strangerStep_48 ?_
            refine P_iald (pc := 49) ((((b + 1) + (3 * k)) + 1)) (x := nI (s 122 (((b + 1) + (3 * k)) + 1))) dX12_strangerStep_49 sh_122 rfl (by omega) (by decide) (hR 122 _ rfl) ?_
            refine P_iload (pc := 50) dX12_strangerStep_50 rfl ?_
            refine P_icmp_neN (pc := 52) (tgt := 67) dX12_strangerStep_52 (by decide) (by omega) (by omega) (fun h52 => ?_) (fun h52 => ?_)
            · refine P_iload (pc := 67) dX12_strangerStep_67 rfl ?_
              exact k69_38 _ (by
                rw [zSign_s]
                first
                  | (rw [if_pos (show s 122 (b + 1 + 3 * k) = c ∧ s 122 (b + 1 + 3 * k + 1) = a from ⟨by omega, by omega⟩)]; rfl)
                  | (rw [if_neg (show ¬ (s 122 (b + 1 + 3 * k) = c ∧ s 122 (b + 1 + 3 * k + 1) = a) from by omega)]))
            · refine P_aload_n (pc := 55) dX12_strangerStep_55 rfl ?_
              refine P_getr (pc := 56) 12 17 dX12_strangerStep_56 fl_X12_47 sh_109 fr_12_17 F_109_17 ?_
              refine P_iload (pc := 59) dX12_strangerStep_59 rfl ?_
              refine P_iconst (pc := 61) (x := nI 2) dX12_strangerStep_61 (by decide) ?_
              refine P_iaddN (pc := 62) dX12_strangerStep_62 ?_
              refine P_iald (pc := 63) ((((b + 1) + (3 * k)) + 2)) (x := nI (s 122 (((b + 1) + (3 * k)) + 2))) dX12_strangerStep_63 sh_122 rfl (by omega) (by decide) (hR 122 _ rfl) ?_
              refine P_goto (pc := 64) (tgt := 69) dX12_strangerStep_64 (by decide) ?_
              exact k69_38 _ (by
                rw [zSign_s]
                first
                  | (rw [if_pos (show s 122 (b + 1 + 3 * k) = c ∧ s 122 (b + 1 + 3 * k + 1) = a from ⟨by omega, by omega⟩)]; rfl)
                  | (rw [if_neg (show ¬ (s 122 (b + 1 + 3 * k) = c ∧ s 122 (b + 1 + 3 * k + 1) = a) from by omega)]))
        · refine P_istore (pc := 69) dX12_strangerStep_69 (by decide) rfl ?_
          refine P_iincN (pc := 71) (c := 1) dX12_strangerStep_71 rfl (by decide) (by decide) rfl ?_
          refine P_goto (pc := 74) (tgt := 7) dX12_strangerStep_74 (by decide) ?_
          exact ih (k + 1) _ (by omega) (by omega)
  show ZP _ _ _ _ [some _, some _, some _, some _, some _, none, none, none] _ _ _ _
  refine P_bipush (pc := 0) (x := (-4)) dX12_strangerStep_0 (by decide) ?_
  refine P_istore (pc := 2) dX12_strangerStep_2 (by decide) rfl ?_
  refine P_iconst (pc := 4) (x := nI 0) dX12_strangerStep_4 (by decide) ?_
  refine P_istore (pc := 5) dX12_strangerStep_5 (by decide) rfl ?_
  exact loop (s 122 b + 1) 0 none (by omega) (by omega)
set_option maxRecDepth 20000 in
theorem c_nextOf {l : Launch} {D : va_G} {tw : Nat} {I : AI} {s : Nat → Nat → Nat} (hR : RefV s I) (hB : RefN s) (hnc : s 111 0 ≤ 8) {b kd c a : Nat} {cm : Option Nat} (hkd : kd < 4) (hb : b ≤ 352) (hgn : s 122 b ≤ 9) (hsg : ∀ k, k < s 122 b → sgC s b k < 8 ∧ sgT s b k < 8 ∧ sgN s b k < 8) (hc : c < 8) (ha : a < 8) (hcm : ∀ m, cm = some m → m < 8 ∧ s 123 (8 * c + m) < 10000) : ZP l D zm_X12_nextOf 0 (zent 6 [.ref 109, .int (nI b), .int (nI kd), .int (nI c), .int (zo (-1) cm), .int (nI a)]) [] I (zF tw) (fun v J G => v = some (zo (-4) (zNx (s 111 0) (s 123) (s 124) (sgAt s b a) kd a c cm)) ∧ I = J ∧ G = zF tw) := by
  show ZP _ _ _ _ [some _, some _, some _, some _, some _, some _] _ _ _ _
  have hk4 : kd = 0 ∨ kd = 1 ∨ kd = 2 ∨ kd = 3 := by omega
  refine P_iload_n (pc := 0) dX12_nextOf_0 rfl ?_
  rcases hk4 with rfl | rfl | rfl | rfl
  · refine P_lookup (pc := 1) (off := 47) (tgt := 48) dX12_nextOf_1 (by decide) (by decide) (by decide) ?_
    refine P_aload_n (pc := 48) dX12_nextOf_48 rfl ?_
    refine P_iload_n (pc := 49) dX12_nextOf_49 rfl ?_
    refine P_iload (pc := 50) dX12_nextOf_50 rfl ?_
    obtain ⟨_, _, _, k9, rfl, rfl, rfl⟩ := c_nativeStep (l := l) (D := D) (tw := tw) hR hB hnc hc ha
    refine P_callV (pc := 52) (S := []) (As := [_, _]) k9 dX12_nextOf_52 ok_X12_nativeStep ml_X12_166 iv_X12_nativeStep ⟨by decide, by decide⟩ (zret_i _) rfl ⟨rfl, by decide⟩ sh_109 ⟨by decide, rfl⟩ (Nat.le_of_ble_eq_true rfl) ?_
    exact P_iret (pc := 55) dX12_nextOf_55 (⟨rfl, rfl, rfl⟩)
  · refine P_lookup (pc := 1) (off := 27) (tgt := 28) dX12_nextOf_1 (by decide) (by decide) (by decide) ?_
    refine P_aload_n (pc := 28) dX12_nextOf_28 rfl ?_
    refine P_iload_n (pc := 29) dX12_nextOf_29 rfl ?_
    refine P_iload_n (pc := 30) dX12_nextOf_30 rfl ?_
    refine P_iload (pc := 31) dX12_nextOf_31 rfl ?_
    refine P_iload (pc := 33) dX12_nextOf_33 rfl ?_
    obtain ⟨_, _, _, k9, rfl, rfl, rfl⟩ := c_strangerStep (l := l) (D := D) (tw := tw) (a := a) hR hB hnc hb hgn hsg hc ha hcm
    refine P_callV (pc := 35) (S := []) (As := [_, _, _, _]) k9 dX12_nextOf_35 ok_X12_strangerStep ml_X12_162 iv_X12_strangerStep ⟨by decide, by decide⟩ (zret_i _) rfl ⟨rfl, by decide⟩ sh_109 ⟨by decide, rfl⟩ (Nat.le_of_ble_eq_true rfl) ?_
    exact P_iret (pc := 38) dX12_nextOf_38 (⟨rfl, rfl, rfl⟩)
  · refine P_lookup (pc := 1) (off := 47) (tgt := 48) dX12_nextOf_1 (by decide) (by decide) (by decide) ?_
    refine P_aload_n (pc := 48) dX12_nextOf_48 rfl ?_
    refine P_iload_n (pc := 49) dX12_nextOf_49 rfl ?_
    refine P_iload (pc := 50) dX12_nextOf_50 rfl ?_
    obtain ⟨_, _, _, k9, rfl, rfl, rfl⟩ := c_nativeStep (l := l) (D := D) (tw := tw) hR hB hnc hc ha
    refine P_callV (pc := 52) (S := []) (As := [_, _]) k9 dX12_nextOf_52 ok_X12_nativeStep ml_X12_166 iv_X12_nativeStep ⟨by decide, by decide⟩ (zret_i _) rfl ⟨rfl, by decide⟩ sh_109 ⟨by decide, rfl⟩ (Nat.le_of_ble_eq_true rfl) ?_
    exact P_iret (pc := 55) dX12_nextOf_55 (⟨rfl, rfl, rfl⟩)
  · refine P_lookup (pc := 1) (off := 38) (tgt := 39) dX12_nextOf_1 (by decide) (by decide) (by decide) ?_
    refine P_aload_n (pc := 39) dX12_nextOf_39 rfl ?_
    refine P_iload_n (pc := 40) dX12_nextOf_40 rfl ?_
    refine P_iload (pc := 41) dX12_nextOf_41 rfl ?_
    refine P_iconst (pc := 43) (x := zb true) dX12_nextOf_43 (by decide) ?_
    obtain ⟨_, _, _, k9, rfl, rfl, rfl⟩ := c_onFrom (l := l) (D := D) (tw := tw) (b := true) hR hB hnc hc hcm
    refine P_callV (pc := 44) (S := []) (As := [_, _, _]) k9 dX12_nextOf_44 ok_X12_onFrom ml_X12_158 iv_X12_onFrom ⟨by decide, by decide⟩ (zret_i _) rfl ⟨rfl, by decide⟩ sh_109 ⟨by decide, rfl⟩ (Nat.le_of_ble_eq_true rfl) ?_
    exact P_iret (pc := 47) dX12_nextOf_47 (⟨rfl, rfl, rfl⟩)
