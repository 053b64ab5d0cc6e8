set_option maxRecDepth 20000 in
theorem c_moreWithout {l : Launch} {D : va_G} {tw : Nat} {I : AI} {s : Nat → Nat → Nat} (hR : RefV s I) (hG : RefG s) (hP : RefP s) {k : Nat} {ow : Nat → Nat} (hk : k < 2 ^ 31) (how : ∀ i, i < s 116 0 → I 127 i = nI (ow i) ∧ ow i ≤ 10000) : ZP l D zm_X12_moreWithout 0 (zent 5 [.ref 109, .int (nI k)]) [] I (zF tw) (fun v J G => v = some (zMw (zFa s (some k)) ow (s 116 0)) ∧ G = zF tw ∧ zF3 I J (nrS s (some k)) (zFar (nrS s (some k)))) := by
  have hP0 := hP.1
  show ZP _ _ _ _ [some _, some _, none, none, none] _ _ _ _
  refine P_aload_n (pc := 0) dX12_moreWithout_0 rfl ?_
  refine P_iload_n (pc := 1) dX12_moreWithout_1 rfl ?_
  obtain ⟨_, J, _, km, rfl, rfl, h3⟩ := c_measure (l := l) (D := D) (tw := tw) (w := some k) hR hG (fun m hm => by cases hm; omega)
  have hfb : ∀ j, zFar (nrS s (some k)) j ≤ 10000 := fun j => zD_le (zNr_le (fun k hk => (hG.2 k hk).2.2)) 8
  refine P_callV (pc := 2) (S := []) (As := [_]) km dX12_moreWithout_2 ok_X12_measure ml_X12_138 iv_X12_measure ⟨by decide, by decide⟩ zret_v rfl ⟨rfl, by decide⟩ sh_109 ⟨by decide, rfl⟩ (Nat.le_of_ble_eq_true rfl) ?_
  refine P_iconst (pc := 5) (x := nI 0) dX12_moreWithout_5 (by decide) ?_
  refine P_istore_n (pc := 6) dX12_moreWithout_6 (by decide) rfl ?_
  refine P_iconst (pc := 7) (x := nI 0) dX12_moreWithout_7 (by decide) ?_
  refine P_istore_n (pc := 8) dX12_moreWithout_8 (by decide) rfl ?_
  have loop : ∀ (d : Nat) (i : Nat) (v4 : Option Value), s 116 0 - i < d → i ≤ s 116 0 → ZP l D zm_X12_moreWithout 9 [some (.ref 109), some (.int (nI k)), some (.int (zMw (zFa s (some k)) ow i)), some (.int (nI i)), v4] [] J (zF tw) (fun v J G => v = some (zMw (zFa s (some k)) ow (s 116 0)) ∧ G = zF tw ∧ zF3 I J (nrS s (some k)) (zFar (nrS s (some k)))) := by
    intro d
    induction d with
    | zero =>
      intro i v4 hd
      exact absurd hd (by omega)
    | succ d ih =>
      intro i v4 hd hi
      refine P_iload_n (pc := 9) dX12_moreWithout_9 rfl ?_
      refine P_aload_n (pc := 10) dX12_moreWithout_10 rfl ?_
      refine P_getr (pc := 11) 12 7 dX12_moreWithout_11 fl_X12_29 sh_109 fr_12_7 F_109_7 ?_
      refine P_iconst (pc := 14) (x := nI 0) dX12_moreWithout_14 (by decide) ?_
      refine P_iald (pc := 15) (0) (x := nI (s 116 0)) dX12_moreWithout_15 sh_116 rfl (by omega) (by decide) ((congrFun (h3.1 116 (by decide) (by decide)) _).trans (hR 116 _ rfl)) ?_
      refine P_icmp_geN (pc := 16) (tgt := 92) dX12_moreWithout_16 (by decide) (by omega) (by omega) (fun h16 => ?_) (fun h16 => ?_)
      · refine P_iload_n (pc := 92) dX12_moreWithout_92 rfl ?_
        refine P_iret (pc := 93) dX12_moreWithout_93 ?_
        have hi2 : i = s 116 0 := by omega
        subst hi2
        exact ⟨rfl, rfl, h3⟩
      · have hw := hP.2 i (by omega)
        have ho2 := (how i (by omega)).2
        have hfa2 : zFa s (some k) i ≤ 10000 := hfb _
        refine P_aload_n (pc := 19) dX12_moreWithout_19 rfl ?_
        refine P_getr (pc := 20) 12 21 dX12_moreWithout_20 fl_X12_53 sh_109 fr_12_21 F_109_21 ?_
        refine P_bipush (pc := 23) (x := nI 8) dX12_moreWithout_23 (by decide) ?_
        refine P_aload_n (pc := 25) dX12_moreWithout_25 rfl ?_
        refine P_getr (pc := 26) 12 9 dX12_moreWithout_26 fl_X12_35 sh_109 fr_12_9 F_109_9 ?_
        refine P_iload_n (pc := 29) dX12_moreWithout_29 rfl ?_
        refine P_iald (pc := 30) (i) (x := nI (s 118 i)) dX12_moreWithout_30 sh_118 rfl (by omega) (by decide) ((congrFun (h3.1 118 (by decide) (by decide)) _).trans (hR 118 _ rfl)) ?_
        refine P_imulN (pc := 31) dX12_moreWithout_31 ?_
        refine P_aload_n (pc := 32) dX12_moreWithout_32 rfl ?_
        refine P_getr (pc := 33) 12 10 dX12_moreWithout_33 fl_X12_38 sh_109 fr_12_10 F_109_10 ?_
        refine P_iload_n (pc := 36) dX12_moreWithout_36 rfl ?_
        refine P_iald (pc := 37) (i) (x := nI (s 119 i)) dX12_moreWithout_37 sh_119 rfl (by omega) (by decide) ((congrFun (h3.1 119 (by decide) (by decide)) _).trans (hR 119 _ rfl)) ?_
        refine P_iaddN (pc := 38) dX12_moreWithout_38 ?_
        refine P_iald (pc := 39) (((8 * (s 118 i)) + (s 119 i))) (x := nI (zFa s (some k) i)) dX12_moreWithout_39 sh_124 rfl (by omega) (by decide) (h3.2.2.1 _ (by omega)) ?_
        refine P_istore (pc := 40) dX12_moreWithout_40 (by decide) rfl ?_
        refine P_iload_n (pc := 42) dX12_moreWithout_42 rfl ?_
        refine P_iload (pc := 43) dX12_moreWithout_43 rfl ?_
        refine P_sipush (pc := 45) (x := nI 10000) dX12_moreWithout_45 (by decide) ?_
        refine P_sel2 (pc := 48) (nI (c200 (zFa s (some k) i))) 59 (fun k59_48 => ?_) ?_
        · refine P_icmp_ltN (pc := 48) (tgt := 57) dX12_moreWithout_48 (by decide) (by omega) (by omega) (fun h48 => ?_) (fun h48 => ?_)
          · refine P_iload (pc := 57) dX12_moreWithout_57 rfl ?_
            exact k59_48 _ (by unfold c200; rw [if_pos (by omega)])
          · refine P_sipush (pc := 51) (x := nI 200) dX12_moreWithout_51 (by decide) ?_
            refine P_goto (pc := 54) (tgt := 59) dX12_moreWithout_54 (by decide) ?_
            exact k59_48 _ (by unfold c200; rw [if_neg (by omega)])
        · refine P_aload_n (pc := 59) dX12_moreWithout_59 rfl ?_
          refine P_getr (pc := 60) 12 29 dX12_moreWithout_60 fl_X12_62 sh_109 fr_12_29 F_109_29 ?_
          refine P_iload_n (pc := 63) dX12_moreWithout_63 rfl ?_
          refine P_iald (pc := 64) (i) (x := nI (ow i)) dX12_moreWithout_64 sh_127 rfl (by omega) (by decide) ((congrFun (h3.1 127 (by decide) (by decide)) _).trans (how i (by omega)).1) ?_
          refine P_sipush (pc := 65) (x := nI 10000) dX12_moreWithout_65 (by decide) ?_
          refine P_sel2 (pc := 68) (nI (c200 (ow i))) 83 (fun k83_68 => ?_) ?_
          · refine P_icmp_ltN (pc := 68) (tgt := 77) dX12_moreWithout_68 (by decide) (by omega) (by omega) (fun h68 => ?_) (fun h68 => ?_)
            · refine P_aload_n (pc := 77) dX12_moreWithout_77 rfl ?_
              refine P_getr (pc := 78) 12 29 dX12_moreWithout_78 fl_X12_62 sh_109 fr_12_29 F_109_29 ?_
              refine P_iload_n (pc := 81) dX12_moreWithout_81 rfl ?_
              refine P_iald (pc := 82) (i) (x := nI (ow i)) dX12_moreWithout_82 sh_127 rfl (by omega) (by decide) ((congrFun (h3.1 127 (by decide) (by decide)) _).trans (how i (by omega)).1) ?_
              exact k83_68 _ (by unfold c200; rw [if_pos (by omega)])
            · refine P_sipush (pc := 71) (x := nI 200) dX12_moreWithout_71 (by decide) ?_
              refine P_goto (pc := 74) (tgt := 83) dX12_moreWithout_74 (by decide) ?_
              exact k83_68 _ (by unfold c200; rw [if_neg (by omega)])
          · refine P_isub (pc := 83) dX12_moreWithout_83 ?_
            refine P_iadd (pc := 84) dX12_moreWithout_84 ?_
            refine P_istore_n (pc := 85) dX12_moreWithout_85 (by decide) rfl ?_
            refine P_iincN (pc := 86) (c := 1) dX12_moreWithout_86 rfl (by decide) (by decide) rfl ?_
            refine P_goto (pc := 89) (tgt := 9) dX12_moreWithout_89 (by decide) ?_
            exact ih (i + 1) _ (by omega) (by omega)
  exact loop (s 116 0 + 1) 0 none (by omega) (by omega)
abbrev sN (s : Nat → Nat → Nat) (n f : Nat → Nat) : Nat → Nat → Nat := va_up (va_up s 123 n) 124 f
/-- while streets are tried: rows 123, 124 and 127 move -/
def zFM (I K : AI) (n f : Nat → Nat) : Prop := (∀ a, a ≠ 123 → a ≠ 124 → a ≠ 127 → K a = I a) ∧ (∀ k, K 123 k = nI (n k) ∧ K 124 k = nI (f k)) ∧ ∀ k, 64 ≤ k → K 123 k = I 123 k ∧ K 124 k = I 124 k
theorem zFM.R {s : Nat → Nat → Nat} {I K : AI} {n f : Nat → Nat} (h : zFM I K n f) (hR : RefV s I) : RefV (sN s n f) K := by
  intro a k ha
  by_cases e : a = 124
  · subst e; rw [sN, va_up_s]; exact (h.2.1 k).2
  · rw [sN, va_up_n _ _ e]
    by_cases e2 : a = 123
    · subst e2; rw [va_up_s]; exact (h.2.1 k).1
    · have h1 : a ≠ 127 := by
        simp only [zrA, Bool.and_eq_true, decide_eq_true_eq, Bool.not_eq_true', beq_eq_false_iff_ne, ne_eq] at ha
        omega
      rw [va_up_n _ _ e2, h.1 a e2 e h1]
      exact hR a k ha
theorem zFM.three {s : Nat → Nat → Nat} {I K K2 : AI} {n f n2 f2 : Nat → Nat} (h : zFM I K n f) (hR : RefV s I) (h2 : zF3 K K2 n2 f2) : zFM I K2 (fun k => if k < 64 then n2 k else s 123 k) (fun k => if k < 64 then f2 k else s 124 k) := by
  refine ⟨fun a h3 h4 h5 => (h2.1 a h3 h4).trans (h.1 a h3 h4 h5), fun k => ?_, fun k hk => ⟨(h2.2.2.2 k hk).1.trans (h.2.2 k hk).1, (h2.2.2.2 k hk).2.trans (h.2.2 k hk).2⟩⟩
  by_cases e : k < 64
  · simp only [if_pos e]; exact ⟨h2.2.1 k e, h2.2.2.1 k e⟩
  · simp only [if_neg e]
    refine ⟨((h2.2.2.2 k (by omega)).1.trans (h.2.2 k (by omega)).1).trans (hR 123 k rfl), ((h2.2.2.2 k (by omega)).2.trans (h.2.2 k (by omega)).2).trans (hR 124 k rfl)⟩
set_option maxRecDepth 20000 in
theorem c_missed {l : Launch} {D : va_G} {tw : Nat} {I : AI} {s : Nat → Nat → Nat} (hA : RefA s I) (hT : RefT s) (hP : RefP s) (hG : RefG s) (hM : RefM s) {x : Int32} : ZP l D zm_X12_missed 0 (zent 6 [.ref 109, .int x]) [] I (zF tw) (fun v J G => v = some (aMissed s x) ∧ G = zF tw ∧ RefA s J ∧ zFrm I J) := by
  have hR := hA.1
  have hP0 := hP.1
  have hG1 := hG.1
  have hfb : ∀ j, zFar (nrS s none) j ≤ 10000 := fun j => zD_le (zNr_le (fun k hk => (hG.2 k hk).2.2)) 8
  show ZP _ _ _ _ [some _, some _, none, none, none, none] _ _ _ _
  refine P_iload_n (pc := 0) dX12_missed_0 rfl ?_
  refine P_iconst (pc := 1) (x := nI 0) dX12_missed_1 (by decide) ?_
  refine P_iconst (pc := 2) (x := nI 1) dX12_missed_2 (by decide) ?_
  obtain ⟨_, _, _, k1, rfl, rfl, rfl⟩ := c_inN (l := l) (D := D) (tw := tw) (x := x) (m := 1) (by omega)
  refine P_callS (pc := 3) (S := []) (As := [_, _, _]) k1 dX12_missed_3 ok_X12_in ml_X12_94 is_X12_in ⟨by decide, by decide⟩ (zret_b (zix x (1 + 1))) rfl ⟨rfl, by decide⟩ (Nat.le_of_ble_eq_true rfl) ?_
  refine P_if_neB (pc := 6) (tgt := 11) dX12_missed_6 (by decide) (fun h6 => ?_) (fun h6 => ?_)
  · obtain ⟨i, hl_i, rfl⟩ := zix_t h6 (by omega)
    refine P_iconst (pc := 11) (x := nI 0) dX12_missed_11 (by decide) ?_
    refine P_istore_n (pc := 12) dX12_missed_12 (by decide) rfl ?_
    have loop : ∀ (d : Nat) (k : Nat) (K : AI) (n f : Nat → Nat) (pk : Option (Nat × Int32)) (v5 : Option Value), s 112 0 - k < d → k ≤ s 112 0 → zFM I K n f → (∀ i, i < s 116 0 → K 127 i = nI (zFa s none i)) → pk = zPkM (fun k => zMw (zFa s (some k)) (zFa s none) (s 116 0)) k → ZP l D zm_X12_missed 65 [some (.ref 109), some (.int (nI i)), some (.int (zp1 pk)), some (.int (zp2 pk)), some (.int (nI k)), v5] [] K (zF tw) (fun v J G => v = some (aMissed s (nI i)) ∧ G = zF tw ∧ RefA s J ∧ zFrm I J) := by
      intro d
      induction d with
      | zero =>
        intro k K n f pk v5 hd
        exact absurd hd (by omega)
      | succ d ih =>
        intro k K n f pk v5 hd hk hF how hpk
        refine P_iload (pc := 65) dX12_missed_65 rfl ?_
        refine P_aload_n (pc := 67) dX12_missed_67 rfl ?_
        refine P_getr (pc := 68) 12 3 dX12_missed_68 fl_X12_17 sh_109 fr_12_3 F_109_3 ?_
        refine P_iconst (pc := 71) (x := nI 0) dX12_missed_71 (by decide) ?_
        refine P_iald (pc := 72) (0) (x := nI (s 112 0)) dX12_missed_72 sh_112 rfl (by omega) (by decide) ((hF.R hR) 112 _ rfl) ?_
        refine P_icmp_geN (pc := 73) (tgt := 108) dX12_missed_73 (by decide) (by omega) (by omega) (fun h73 => ?_) (fun h73 => ?_)
        · have hk2 : k = s 112 0 := by omega
          subst hk2
          have hpk2 : pk = zMi s := hpk
          subst hpk2
          refine P_aload_n (pc := 108) dX12_missed_108 rfl ?_
          refine P_bipush (pc := 109) (x := (-4)) dX12_missed_109 (by decide) ?_
          obtain ⟨_, K2, _, km, rfl, rfl, h3⟩ := c_measure (l := l) (D := D) (tw := tw) (s := sN s n f) (w := none) (hF.R hR) hG (fun m hm => by cases hm)
          have hF2 := hF.three hR h3
          have hA2 : RefA s K2 := by
            refine ⟨fun a k ha => ?_, fun k hk => ?_⟩
            · by_cases e : a = 123
              · subst e
                rw [(hF2.2.1 k).1]
                congr 1
                by_cases e2 : k < 64
                · simp only [if_pos e2]; exact (hM k e2).1.symm
                · simp only [if_neg e2]
              · by_cases e2 : a = 124
                · subst e2
                  rw [(hF2.2.1 k).2]
                  congr 1
                  by_cases e3 : k < 64
                  · simp only [if_pos e3]; exact (hM k e3).2.symm
                  · simp only [if_neg e3]
                · have h1 : a ≠ 127 := by
                    simp only [zrA, Bool.and_eq_true, decide_eq_true_eq, Bool.not_eq_true', beq_eq_false_iff_ne, ne_eq] at ha
                    omega
                  rw [hF2.1 a e e2 h1]
                  exact hR a k ha
            · rw [hF2.1 109 (by decide) (by decide) (by decide)]; exact hA.2 k hk
          have hfrm : zFrm I K2 := fun a ha => hF2.1 a (by omega) (by omega) (by omega)
          refine P_callV (pc := 111) (S := []) (As := [_]) km dX12_missed_111 ok_X12_measure ml_X12_138 iv_X12_measure ⟨by decide, by decide⟩ zret_v rfl ⟨rfl, by decide⟩ sh_109 ⟨by decide, rfl⟩ (Nat.le_of_ble_eq_true rfl) ?_
          refine P_iload_n (pc := 114) dX12_missed_114 rfl ?_
          refine P_if_neN (pc := 115) (tgt := 122) dX12_missed_115 (by decide) (by omega) (fun h115 => ?_) (fun h115 => ?_)
          · refine P_iload_n (pc := 122) dX12_missed_122 rfl ?_
            exact P_iret (pc := 123) dX12_missed_123 (⟨by unfold aMissed; rw [if_pos h6, nI_clamp (by omega)]; first | rw [if_pos (by omega)] | rw [if_neg (by omega)], rfl, hA2, hfrm⟩)
          · refine P_iload_n (pc := 118) dX12_missed_118 rfl ?_
            refine P_goto (pc := 119) (tgt := 123) dX12_missed_119 (by decide) ?_
            exact P_iret (pc := 123) dX12_missed_123 (⟨by unfold aMissed; rw [if_pos h6, nI_clamp (by omega)]; first | rw [if_pos (by omega)] | rw [if_neg (by omega)], rfl, hA2, hfrm⟩)
        · refine P_aload_n (pc := 76) dX12_missed_76 rfl ?_
          refine P_iload (pc := 77) dX12_missed_77 rfl ?_
          obtain ⟨_, K2, _, km, rfl, rfl, h3⟩ := c_moreWithout (l := l) (D := D) (tw := tw) (s := sN s n f) (k := k) (ow := zFa s none) (hF.R hR) hG hP (by omega) (fun i hi => ⟨how i hi, hfb _⟩)
          have hF2 := hF.three hR h3
          have how2 : ∀ i, i < s 116 0 → K2 127 i = nI (zFa s none i) := fun i hi => by rw [h3.1 127 (by decide) (by decide)]; exact how i hi
          refine P_callV (pc := 79) (S := []) (As := [_]) km dX12_missed_79 ok_X12_moreWithout ml_X12_216 iv_X12_moreWithout ⟨by decide, by decide⟩ (zret_i _) rfl ⟨rfl, by decide⟩ sh_109 ⟨by decide, rfl⟩ (Nat.le_of_ble_eq_true rfl) ?_
          refine P_istore (pc := 82) dX12_missed_82 (by decide) rfl ?_
          rcases hp : zPkM (fun k => zMw (zFa s (some k)) (zFa s none) (s 116 0)) k with _ | ⟨q, v0⟩
          · rw [hp] at hpk; subst hpk
            refine P_iload_n (pc := 84) dX12_missed_84 rfl ?_
            refine P_bipush (pc := 85) (x := (-4)) dX12_missed_85 (by decide) ?_
            refine P_icmp_eqT (pc := 87) (tgt := 96) dX12_missed_87 (by decide) (by decide) ?_
            refine P_iload (pc := 96) dX12_missed_96 rfl ?_
            refine P_istore_n (pc := 98) dX12_missed_98 (by decide) rfl ?_
            refine P_iload (pc := 99) dX12_missed_99 rfl ?_
            refine P_istore_n (pc := 101) dX12_missed_101 (by decide) rfl ?_
            refine P_iincN (pc := 102) (c := 1) dX12_missed_102 rfl (by decide) (by decide) rfl ?_
            refine P_goto (pc := 105) (tgt := 65) dX12_missed_105 (by decide) ?_
            exact ih (k + 1) K2 _ _ (some (k, (zMw (zFa s (some k)) (zFa s none) (s 116 0)))) _ (by omega) (by omega) hF2 how2 (zPkM_n hp).symm
          · have hq := zPkM_lt hp
            rw [hp] at hpk; subst hpk
            refine P_iload_n (pc := 84) dX12_missed_84 rfl ?_
            refine P_bipush (pc := 85) (x := (-4)) dX12_missed_85 (by decide) ?_
            refine P_icmp_eqF (pc := 87) (tgt := 96) dX12_missed_87 (by decide) (zne4 (by omega)) ?_
            refine P_iload (pc := 90) dX12_missed_90 rfl ?_
            refine P_iload_n (pc := 92) dX12_missed_92 rfl ?_
            refine P_icmp_le (pc := 93) (tgt := 102) dX12_missed_93 (by decide) (fun h93 => ?_) (fun h93 => ?_)
            · refine P_iincN (pc := 102) (c := 1) dX12_missed_102 rfl (by decide) (by decide) rfl ?_
              refine P_goto (pc := 105) (tgt := 65) dX12_missed_105 (by decide) ?_
              exact ih (k + 1) K2 _ _ (some (q, v0)) _ (by omega) (by omega) hF2 how2 (zPkM_f hp (Int32.not_lt.mpr h93)).symm
            · refine P_iload (pc := 96) dX12_missed_96 rfl ?_
              refine P_istore_n (pc := 98) dX12_missed_98 (by decide) rfl ?_
              refine P_iload (pc := 99) dX12_missed_99 rfl ?_
              refine P_istore_n (pc := 101) dX12_missed_101 (by decide) rfl ?_
              refine P_iincN (pc := 102) (c := 1) dX12_missed_102 rfl (by decide) (by decide) rfl ?_
              refine P_goto (pc := 105) (tgt := 65) dX12_missed_105 (by decide) ?_
              exact ih (k + 1) K2 _ _ (some (k, (zMw (zFa s (some k)) (zFa s none) (s 116 0)))) _ (by omega) (by omega) hF2 how2 (zPkM_t hp (Int32.not_le.mp h93)).symm
    have lo : ∀ (ep : Nat) (p : Nat) (K : AI), s 116 0 - p < ep → p ≤ s 116 0 → (∀ a, a ≠ 127 → K a = I a) ∧ (∀ q, q < p → K 127 q = nI (zFa s none q)) → ZP l D zm_X12_missed 13 [some (.ref 109), some (.int (nI i)), some (.int (nI p)), none, none, none] [] K (zF tw) (fun v J G => v = some (aMissed s (nI i)) ∧ G = zF tw ∧ RefA s J ∧ zFrm I J) := by
      intro ep
      induction ep with
      | zero =>
        intro p K hep
        exact absurd hep (by omega)
      | succ ep ihp =>
        intro p K hdp hp hK
        refine P_iload_n (pc := 13) dX12_missed_13 rfl ?_
        refine P_aload_n (pc := 14) dX12_missed_14 rfl ?_
        refine P_getr (pc := 15) 12 7 dX12_missed_15 fl_X12_29 sh_109 fr_12_7 F_109_7 ?_
        refine P_iconst (pc := 18) (x := nI 0) dX12_missed_18 (by decide) ?_
        refine P_iald (pc := 19) (0) (x := nI (s 116 0)) dX12_missed_19 sh_116 rfl (by omega) (by decide) ((congrFun (hK.1 116 (by decide)) _).trans (hR 116 _ rfl)) ?_
        refine P_icmp_geN (pc := 20) (tgt := 56) dX12_missed_20 (by decide) (by omega) (by omega) (fun h20 => ?_) (fun h20 => ?_)
        · refine P_bipush (pc := 56) (x := (-4)) dX12_missed_56 (by decide) ?_
          refine P_istore_n (pc := 58) dX12_missed_58 (by decide) rfl ?_
          refine P_bipush (pc := 59) (x := (-4)) dX12_missed_59 (by decide) ?_
          refine P_istore_n (pc := 61) dX12_missed_61 (by decide) rfl ?_
          refine P_iconst (pc := 62) (x := nI 0) dX12_missed_62 (by decide) ?_
          refine P_istore (pc := 63) dX12_missed_63 (by decide) rfl ?_
          exact loop (s 112 0 + 1) 0 K (s 123) (s 124) none none (by omega) (by omega) ⟨fun a h1 h2 h3 => hK.1 a h3, fun k => ⟨by rw [hK.1 123 (by decide)]; exact hR 123 k rfl, by rw [hK.1 124 (by decide)]; exact hR 124 k rfl⟩, fun k _ => ⟨by rw [hK.1 123 (by decide)], by rw [hK.1 124 (by decide)]⟩⟩ (fun q hq => hK.2 q (by omega)) rfl
        · have hw := hP.2 p (by omega)
          refine P_aload_n (pc := 23) dX12_missed_23 rfl ?_
          refine P_getr (pc := 24) 12 29 dX12_missed_24 fl_X12_62 sh_109 fr_12_29 F_109_29 ?_
          refine P_iload_n (pc := 27) dX12_missed_27 rfl ?_
          refine P_aload_n (pc := 28) dX12_missed_28 rfl ?_
          refine P_getr (pc := 29) 12 21 dX12_missed_29 fl_X12_53 sh_109 fr_12_21 F_109_21 ?_
          refine P_bipush (pc := 32) (x := nI 8) dX12_missed_32 (by decide) ?_
          refine P_aload_n (pc := 34) dX12_missed_34 rfl ?_
          refine P_getr (pc := 35) 12 9 dX12_missed_35 fl_X12_35 sh_109 fr_12_9 F_109_9 ?_
          refine P_iload_n (pc := 38) dX12_missed_38 rfl ?_
          refine P_iald (pc := 39) (p) (x := nI (s 118 p)) dX12_missed_39 sh_118 rfl (by omega) (by decide) ((congrFun (hK.1 118 (by decide)) _).trans (hR 118 _ rfl)) ?_
          refine P_imulN (pc := 40) dX12_missed_40 ?_
          refine P_aload_n (pc := 41) dX12_missed_41 rfl ?_
          refine P_getr (pc := 42) 12 10 dX12_missed_42 fl_X12_38 sh_109 fr_12_10 F_109_10 ?_
          refine P_iload_n (pc := 45) dX12_missed_45 rfl ?_
          refine P_iald (pc := 46) (p) (x := nI (s 119 p)) dX12_missed_46 sh_119 rfl (by omega) (by decide) ((congrFun (hK.1 119 (by decide)) _).trans (hR 119 _ rfl)) ?_
          refine P_iaddN (pc := 47) dX12_missed_47 ?_
          refine P_iald (pc := 48) (((8 * (s 118 p)) + (s 119 p))) (x := nI (zFa s none p)) dX12_missed_48 sh_124 rfl (by omega) (by decide) (((congrFun (hK.1 124 (by decide)) _).trans (hR 124 _ rfl)).trans (congrArg nI (hM _ (by omega)).2)) ?_
          refine P_iast (pc := 49) (p) dX12_missed_49 sh_127 rfl (by omega) (by decide) ?_
          refine P_iincN (pc := 50) (c := 1) dX12_missed_50 rfl (by decide) (by decide) rfl ?_
          refine P_goto (pc := 53) (tgt := 13) dX12_missed_53 (by decide) ?_
          refine ihp (p + 1) _ (by omega) (by omega) ⟨fun a ha => by rw [zu_o _ _ ha]; exact hK.1 a ha, fun q hq => ?_⟩
          by_cases e : q = p
          · subst e; rw [zu_s]
          · rw [zu_n _ _ e]; exact hK.2 q (by omega)
    exact lo (s 116 0 + 1) 0 I (by omega) (by omega) ⟨fun _ _ => rfl, fun q hq => by omega⟩
  · refine P_iconst (pc := 9) (x := (-1)) dX12_missed_9 (by decide) ?_
    exact P_iret (pc := 10) dX12_missed_10 (⟨by unfold aMissed; rw [if_neg (by rw [h6]; decide)], rfl, hA, zFrm.rf⟩)
