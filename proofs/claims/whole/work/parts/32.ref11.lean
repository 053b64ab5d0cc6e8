set_option maxRecDepth 20000 in
theorem c_mend {l : Launch} {D : va_G} {tw : Nat} {I : AI} {s : Nat → Nat → Nat} (hA : RefA s I) (hT : RefT s) (hP : RefP s) (hK : RefK s 0) (hg8 : s 122 0 ≤ 8) {x : Int32} : ZP l D zm_X12_mend 0 (zent 6 [.ref 109, .int x]) [] I (zF tw) (fun v J G => v = some (aMend s x) ∧ G = zF tw ∧ ∃ g, zFL s I J g) := by
  have hR := hA.1
  have hP0 := hP.1
  have hnc := hT.2.1
  show ZP _ _ _ _ [some _, some _, none, none, none, none] _ _ _ _
  refine P_iload_n (pc := 0) dX12_mend_0 rfl ?_
  refine P_iconst (pc := 1) (x := nI 0) dX12_mend_1 (by decide) ?_
  refine P_iconst (pc := 2) (x := nI 1) dX12_mend_2 (by decide) ?_
  obtain ⟨_, _, _, k1, rfl, rfl, rfl⟩ := c_inN (l := l) (D := D) (tw := tw) (x := x) (m := 1) (by omega)
  refine P_callS (pc := 3) (S := []) (As := [_, _, _]) k1 dX12_mend_3 ok_X12_in ml_X12_94 is_X12_in ⟨by decide, by decide⟩ (zret_b (zix x (1 + 1))) rfl ⟨rfl, by decide⟩ (Nat.le_of_ble_eq_true rfl) ?_
  refine P_if_neB (pc := 6) (tgt := 11) dX12_mend_6 (by decide) (fun h6 => ?_) (fun h6 => ?_)
  · obtain ⟨i, hl_i, rfl⟩ := zix_t h6 (by omega)
    refine P_bipush (pc := 11) (x := (-4)) dX12_mend_11 (by decide) ?_
    refine P_istore_n (pc := 13) dX12_mend_13 (by decide) rfl ?_
    refine P_bipush (pc := 14) (x := (-4)) dX12_mend_14 (by decide) ?_
    refine P_istore_n (pc := 16) dX12_mend_16 (by decide) rfl ?_
    refine P_iconst (pc := 17) (x := nI 0) dX12_mend_17 (by decide) ?_
    refine P_istore (pc := 18) dX12_mend_18 (by decide) rfl ?_
    have loop : ∀ (d : Nat) (k : Nat) (J : AI) (g : Nat → Nat) (pk : Option (Nat × Int32)) (v5 : Option Value), s 122 0 - k < d → k ≤ s 122 0 → zFL s I J g → pk = zPkL (fun k => nI (taxAt (sT s (gCut s k)) 352)) k → ZP l D zm_X12_mend 20 [some (.ref 109), some (.int (nI i)), some (.int (zp2 pk)), some (.int (zp1 pk)), some (.int (nI k)), v5] [] J (zF tw) (fun v J G => v = some (aMend s (nI i)) ∧ G = zF tw ∧ ∃ g, zFL s I J g) := by
      intro d
      induction d with
      | zero =>
        intro k J g pk v5 hd
        exact absurd hd (by omega)
      | succ d ih =>
        intro k J g pk v5 hd hk hF hpk
        refine P_iload (pc := 20) dX12_mend_20 rfl ?_
        refine P_aload_n (pc := 22) dX12_mend_22 rfl ?_
        refine P_getr (pc := 23) 12 17 dX12_mend_23 fl_X12_47 sh_109 fr_12_17 F_109_17 ?_
        refine P_iconst (pc := 26) (x := nI 0) dX12_mend_26 (by decide) ?_
        refine P_iald (pc := 27) (0) (x := nI (s 122 0)) dX12_mend_27 sh_122 rfl (by omega) (by decide) (((hF.R hR) 122 _ rfl).trans (congrArg nI (hF.2.2.2 _ (by omega)))) ?_
        refine P_icmp_geN (pc := 28) (tgt := 81) dX12_mend_28 (by decide) (by omega) (by omega) (fun h28 => ?_) (fun h28 => ?_)
        · have hk2 : k = s 122 0 := by omega
          subst hk2
          have hpk2 : pk = zMp s := hpk
          subst hpk2
          refine P_iload_n (pc := 81) dX12_mend_81 rfl ?_
          refine P_if_neN (pc := 82) (tgt := 89) dX12_mend_82 (by decide) (by omega) (fun h82 => ?_) (fun h82 => ?_)
          · refine P_iload_n (pc := 89) dX12_mend_89 rfl ?_
            exact P_iret (pc := 90) dX12_mend_90 (⟨by unfold aMend; rw [if_pos h6, nI_clamp (by omega)]; first | rw [if_pos (by omega)] | rw [if_neg (by omega)], rfl, g, hF⟩)
          · refine P_iload_n (pc := 85) dX12_mend_85 rfl ?_
            refine P_goto (pc := 86) (tgt := 90) dX12_mend_86 (by decide) ?_
            exact P_iret (pc := 90) dX12_mend_90 (⟨by unfold aMend; rw [if_pos h6, nI_clamp (by omega)]; first | rw [if_pos (by omega)] | rw [if_neg (by omega)], rfl, g, hF⟩)
        · refine P_aload_n (pc := 31) dX12_mend_31 rfl ?_
          refine P_iconst (pc := 32) (x := nI 0) dX12_mend_32 (by decide) ?_
          refine P_sipush (pc := 33) (x := nI 352) dX12_mend_33 (by decide) ?_
          obtain ⟨_, J1, _, kc, rfl, rfl, hC⟩ := c_copy (l := l) (D := D) (tw := tw) (a := 0) (b := 352) hF.2.2.1 (by omega) (by omega) (by omega)
          rw [zCopy_eq hF.2.2.2] at hC
          have hF1 := hF.one hC (fun j hj => zCopy_out hj)
          refine P_callV (pc := 36) (S := []) (As := [_, _]) kc dX12_mend_36 ok_X12_copy ml_X12_203 iv_X12_copy ⟨by decide, by decide⟩ zret_v rfl ⟨rfl, by decide⟩ sh_109 ⟨by decide, rfl⟩ (Nat.le_of_ble_eq_true rfl) ?_
          refine P_aload_n (pc := 39) dX12_mend_39 rfl ?_
          refine P_sipush (pc := 40) (x := nI 352) dX12_mend_40 (by decide) ?_
          refine P_iload (pc := 43) dX12_mend_43 rfl ?_
          obtain ⟨_, J2, _, kd, rfl, rfl, hC2⟩ := c_takeDown (l := l) (D := D) (tw := tw) (b := 352) (k := k) hF1.2.2.1 (by omega) (by rw [zC0]; omega) (by rw [zC0]; omega)
          have hF2 := hF1.one hC2 (gCut_f hg8)
          refine P_callV (pc := 45) (S := []) (As := [_, _]) kd dX12_mend_45 ok_X12_takeDown ml_X12_213 iv_X12_takeDown ⟨by decide, by decide⟩ zret_v rfl ⟨rfl, by decide⟩ sh_109 ⟨by decide, rfl⟩ (Nat.le_of_ble_eq_true rfl) ?_
          refine P_aload_n (pc := 48) dX12_mend_48 rfl ?_
          refine P_sipush (pc := 49) (x := nI 352) dX12_mend_49 (by decide) ?_
          obtain ⟨_, K, _, kt, rfl, rfl, hG, _⟩ := c_taxBy (l := l) (D := D) (tw := tw) (s := sT s (gCut s k)) (b := 352) (hF2.R hR) hT hP (by omega) (gCut_k hg8 (by omega) hK hP)
          have hF3 := hF2.go hG
          refine P_callV (pc := 52) (S := []) (As := [_]) kt dX12_mend_52 ok_X12_taxBy ml_X12_200 iv_X12_taxBy ⟨by decide, by decide⟩ (zret_i _) rfl ⟨rfl, by decide⟩ sh_109 ⟨by decide, rfl⟩ (Nat.le_of_ble_eq_true rfl) ?_
          refine P_istore (pc := 55) dX12_mend_55 (by decide) rfl ?_
          rcases hp : zPkL (fun k => nI (taxAt (sT s (gCut s k)) 352)) k with _ | ⟨q, v0⟩
          · rw [hp] at hpk; subst hpk
            refine P_iload_n (pc := 57) dX12_mend_57 rfl ?_
            refine P_bipush (pc := 58) (x := (-4)) dX12_mend_58 (by decide) ?_
            refine P_icmp_eqT (pc := 60) (tgt := 69) dX12_mend_60 (by decide) (by decide) ?_
            refine P_iload (pc := 69) dX12_mend_69 rfl ?_
            refine P_istore_n (pc := 71) dX12_mend_71 (by decide) rfl ?_
            refine P_iload (pc := 72) dX12_mend_72 rfl ?_
            refine P_istore_n (pc := 74) dX12_mend_74 (by decide) rfl ?_
            refine P_iincN (pc := 75) (c := 1) dX12_mend_75 rfl (by decide) (by decide) rfl ?_
            refine P_goto (pc := 78) (tgt := 20) dX12_mend_78 (by decide) ?_
            exact ih (k + 1) K _ (some (k, (nI (taxAt (sT s (gCut s k)) 352)))) _ (by omega) (by omega) hF3 (zPkL_n hp).symm
          · have hq := zPkL_lt hp
            rw [hp] at hpk; subst hpk
            refine P_iload_n (pc := 57) dX12_mend_57 rfl ?_
            refine P_bipush (pc := 58) (x := (-4)) dX12_mend_58 (by decide) ?_
            refine P_icmp_eqF (pc := 60) (tgt := 69) dX12_mend_60 (by decide) (zne4 (by omega)) ?_
            refine P_iload (pc := 63) dX12_mend_63 rfl ?_
            refine P_iload_n (pc := 65) dX12_mend_65 rfl ?_
            refine P_icmp_ge (pc := 66) (tgt := 75) dX12_mend_66 (by decide) (fun h66 => ?_) (fun h66 => ?_)
            · refine P_iincN (pc := 75) (c := 1) dX12_mend_75 rfl (by decide) (by decide) rfl ?_
              refine P_goto (pc := 78) (tgt := 20) dX12_mend_78 (by decide) ?_
              exact ih (k + 1) K _ (some (q, v0)) _ (by omega) (by omega) hF3 (zPkL_f hp (Int32.not_lt.mpr h66)).symm
            · refine P_iload (pc := 69) dX12_mend_69 rfl ?_
              refine P_istore_n (pc := 71) dX12_mend_71 (by decide) rfl ?_
              refine P_iload (pc := 72) dX12_mend_72 rfl ?_
              refine P_istore_n (pc := 74) dX12_mend_74 (by decide) rfl ?_
              refine P_iincN (pc := 75) (c := 1) dX12_mend_75 rfl (by decide) (by decide) rfl ?_
              refine P_goto (pc := 78) (tgt := 20) dX12_mend_78 (by decide) ?_
              exact ih (k + 1) K _ (some (k, (nI (taxAt (sT s (gCut s k)) 352)))) _ (by omega) (by omega) hF3 (zPkL_t hp (Int32.not_le.mp h66)).symm
    exact loop (s 122 0 + 1) 0 I (s 122) none none (by omega) (by omega) (zFL.rf hR) rfl
  · refine P_iconst (pc := 9) (x := (-1)) dX12_mend_9 (by decide) ?_
    exact P_iret (pc := 10) dX12_mend_10 (⟨by unfold aMend; rw [if_neg (by rw [h6]; decide)], rfl, _, zFL.rf hR⟩)
theorem taxAt_le {s : Nat → Nat → Nat} {b : Nat} (hT : RefT s) (hP : RefP s) (hK : RefK s b) : taxAt s b ≤ 3240 := by
  have h : ∀ n, n ≤ s 116 0 → zSum (zTxW s b) n ≤ 810 * n := by
    intro n
    induction n with
    | zero => intro _; exact Nat.le_refl 0
    | succ n ih =>
      intro h
      have h1 := ih (by omega)
      have h2 := zTxW_le hT hP hK (show n < s 116 0 by omega)
      show zSum (zTxW s b) n + zTxW s b n ≤ 810 * (n + 1)
      omega
  have h1 := h _ (Nat.le_refl _)
  have h2 := hP.1
  show zSum (zTxW s b) (s 116 0) ≤ 3240
  omega
set_option maxRecDepth 20000 in
theorem c_lure {l : Launch} {D : va_G} {tw : Nat} {I : AI} {s : Nat → Nat → Nat} (hA : RefA s I) (hT : RefT s) (hP : RefP s) (hK : RefK s 0) (hg8 : s 122 0 ≤ 8) {x : Int32} : ZP l D zm_X12_lure 0 (zent 8 [.ref 109, .int x]) [] I (zF tw) (fun v J G => v = some (aLure s x) ∧ G = zF tw ∧ ∃ g, zFL s I J g) := by
  have hR := hA.1
  have hP0 := hP.1
  have hnc := hT.2.1
  show ZP _ _ _ _ [some _, some _, none, none, none, none, none, none] _ _ _ _
  refine P_iload_n (pc := 0) dX12_lure_0 rfl ?_
  refine P_iconst (pc := 1) (x := nI 0) dX12_lure_1 (by decide) ?_
  refine P_iconst (pc := 2) (x := nI 1) dX12_lure_2 (by decide) ?_
  obtain ⟨_, _, _, k1, rfl, rfl, rfl⟩ := c_inN (l := l) (D := D) (tw := tw) (x := x) (m := 1) (by omega)
  refine P_callS (pc := 3) (S := []) (As := [_, _, _]) k1 dX12_lure_3 ok_X12_in ml_X12_94 is_X12_in ⟨by decide, by decide⟩ (zret_b (zix x (1 + 1))) rfl ⟨rfl, by decide⟩ (Nat.le_of_ble_eq_true rfl) ?_
  refine P_if_neB (pc := 6) (tgt := 11) dX12_lure_6 (by decide) (fun h6 => ?_) (fun h6 => ?_)
  · obtain ⟨i, hl_i, rfl⟩ := zix_t h6 (by omega)
    refine P_aload_n (pc := 11) dX12_lure_11 rfl ?_
    refine P_iconst (pc := 12) (x := nI 0) dX12_lure_12 (by decide) ?_
    obtain ⟨_, J0, _, kt, rfl, rfl, hG0, _⟩ := c_taxBy (l := l) (D := D) (tw := tw) (b := 0) hR hT hP (by omega) hK
    have hF0 := (zFL.rf hR).go hG0
    refine P_callV (pc := 13) (S := []) (As := [_]) kt dX12_lure_13 ok_X12_taxBy ml_X12_200 iv_X12_taxBy ⟨by decide, by decide⟩ (zret_i _) rfl ⟨rfl, by decide⟩ sh_109 ⟨by decide, rfl⟩ (Nat.le_of_ble_eq_true rfl) ?_
    refine P_istore_n (pc := 16) dX12_lure_16 (by decide) rfl ?_
    refine P_bipush (pc := 17) (x := (-4)) dX12_lure_17 (by decide) ?_
    refine P_istore_n (pc := 19) dX12_lure_19 (by decide) rfl ?_
    refine P_iconst (pc := 20) (x := nI 0) dX12_lure_20 (by decide) ?_
    refine P_istore (pc := 21) dX12_lure_21 (by decide) rfl ?_
    have loop : ∀ (d : Nat) (c : Nat) (J : AI) (g : Nat → Nat) (q : Nat × Option Nat) (v5 v6 v7 : Option Value), s 111 0 - c < d → c ≤ s 111 0 → zFL s I J g → q = luC s c (taxAt s 0, none) → q.1 ≤ 3240 → (∀ m, q.2 = some m → m < 1000) → ZP l D zm_X12_lure 23 [some (.ref 109), some (.int (nI i)), some (.int (nI q.1)), some (.int (zo (-4) q.2)), some (.int (nI c)), v5, v6, v7] [] J (zF tw) (fun v J G => v = some (aLure s (nI i)) ∧ G = zF tw ∧ ∃ g, zFL s I J g) := by
      intro d
      induction d with
      | zero =>
        intro c J g q v5 v6 v7 hd
        exact absurd hd (by omega)
      | succ d ih =>
        intro c J g q v5 v6 v7 hd hc hF hq hqb hql
        refine P_iload (pc := 23) dX12_lure_23 rfl ?_
        refine P_aload_n (pc := 25) dX12_lure_25 rfl ?_
        refine P_getr (pc := 26) 12 2 dX12_lure_26 fl_X12_13 sh_109 fr_12_2 F_109_2 ?_
        refine P_iconst (pc := 29) (x := nI 0) dX12_lure_29 (by decide) ?_
        refine P_iald (pc := 30) (0) (x := nI (s 111 0)) dX12_lure_30 sh_111 rfl (by omega) (by decide) ((hF.R hR) 111 _ rfl) ?_
        refine P_icmp_geN (pc := 31) (tgt := 167) dX12_lure_31 (by decide) (by omega) (by omega) (fun h31 => ?_) (fun h31 => ?_)
        · have hc2 : c = s 111 0 := by omega
          subst hc2
          have hq2 : q = zLu s := hq
          have hlu : aLure s (nI i) = (match q.2 with | none => -4 | some m => if i = 0 then nI m else nI q.1) := by unfold aLure; rw [if_pos h6, nI_clamp (by omega), ← hq2]; cases q.2 <;> rfl
          rw [hlu]
          rcases hm : q.2 with _ | m
          · refine P_iload_n (pc := 167) dX12_lure_167 rfl ?_
            refine P_bipush (pc := 168) (x := (-4)) dX12_lure_168 (by decide) ?_
            refine P_icmp_eqT (pc := 170) (tgt := 177) dX12_lure_170 (by decide) (by decide) ?_
            refine P_iload_n (pc := 177) dX12_lure_177 rfl ?_
            refine P_goto (pc := 178) (tgt := 182) dX12_lure_178 (by decide) ?_
            exact P_iret (pc := 182) dX12_lure_182 (⟨rfl, rfl, g, hF⟩)
          · have hml := hql m hm
            refine P_iload_n (pc := 167) dX12_lure_167 rfl ?_
            refine P_bipush (pc := 168) (x := (-4)) dX12_lure_168 (by decide) ?_
            refine P_icmp_eqF (pc := 170) (tgt := 177) dX12_lure_170 (by decide) (zne4 (by omega)) ?_
            refine P_iload_n (pc := 173) dX12_lure_173 rfl ?_
            refine P_if_neN (pc := 174) (tgt := 181) dX12_lure_174 (by decide) (by omega) (fun h174 => ?_) (fun h174 => ?_)
            · refine P_iload_n (pc := 181) dX12_lure_181 rfl ?_
              exact P_iret (pc := 182) dX12_lure_182 (⟨by simp only []; first | (rw [if_pos (by omega)]; done) | (rw [if_pos (by omega)]; rfl) | rw [if_neg (by omega)], rfl, g, hF⟩)
            · refine P_iload_n (pc := 177) dX12_lure_177 rfl ?_
              refine P_goto (pc := 178) (tgt := 182) dX12_lure_178 (by decide) ?_
              exact P_iret (pc := 182) dX12_lure_182 (⟨by simp only []; first | (rw [if_pos (by omega)]; done) | (rw [if_pos (by omega)]; rfl) | rw [if_neg (by omega)], rfl, g, hF⟩)
        · refine P_iconst (pc := 34) (x := nI 0) dX12_lure_34 (by decide) ?_
          refine P_istore (pc := 35) dX12_lure_35 (by decide) rfl ?_
          obtain ⟨qC, hqC⟩ : ∃ qC, qC = luC s c (taxAt s 0, none) := ⟨_, rfl⟩
          have loopT : ∀ (e2 : Nat) (t : Nat) (J : AI) (g : Nat → Nat) (q : Nat × Option Nat) (v6 v7 : Option Value), s 111 0 - t < e2 → t ≤ s 111 0 → zFL s I J g → q = luT s c t qC → q.1 ≤ 3240 → (∀ m, q.2 = some m → m < 1000) → ZP l D zm_X12_lure 37 [some (.ref 109), some (.int (nI i)), some (.int (nI q.1)), some (.int (zo (-4) q.2)), some (.int (nI c)), some (.int (nI t)), v6, v7] [] J (zF tw) (fun v J G => v = some (aLure s (nI i)) ∧ G = zF tw ∧ ∃ g, zFL s I J g) := by
            intro e2
            induction e2 with
            | zero =>
              intro t J g q v6 v7 he2
              exact absurd he2 (by omega)
            | succ e2 ih2 =>
              intro t J g q v6 v7 hd2 ht hF hq hqb hql
              refine P_iload (pc := 37) dX12_lure_37 rfl ?_
              refine P_aload_n (pc := 39) dX12_lure_39 rfl ?_
              refine P_getr (pc := 40) 12 2 dX12_lure_40 fl_X12_13 sh_109 fr_12_2 F_109_2 ?_
              refine P_iconst (pc := 43) (x := nI 0) dX12_lure_43 (by decide) ?_
              refine P_iald (pc := 44) (0) (x := nI (s 111 0)) dX12_lure_44 sh_111 rfl (by omega) (by decide) ((hF.R hR) 111 _ rfl) ?_
              refine P_icmp_geN (pc := 45) (tgt := 161) dX12_lure_45 (by decide) (by omega) (by omega) (fun h45 => ?_) (fun h45 => ?_)
              · refine P_iincN (pc := 161) (c := 1) dX12_lure_161 rfl (by decide) (by decide) rfl ?_
                refine P_goto (pc := 164) (tgt := 23) dX12_lure_164 (by decide) ?_
                exact ih (c + 1) J g q _ _ _ (by omega) (by omega) hF (by rw [luC, ← hqC]; rw [show t = s 111 0 by omega] at hq; exact hq) hqb hql
              · refine P_iconst (pc := 48) (x := nI 0) dX12_lure_48 (by decide) ?_
                refine P_istore (pc := 49) dX12_lure_49 (by decide) rfl ?_
                obtain ⟨qT, hqT⟩ : ∃ qT, qT = luT s c t qC := ⟨_, rfl⟩
                have loopN : ∀ (e3 : Nat) (n : Nat) (J : AI) (g : Nat → Nat) (q : Nat × Option Nat) (v7 : Option Value), s 111 0 - n < e3 → n ≤ s 111 0 → zFL s I J g → q = luN s c t n qT → q.1 ≤ 3240 → (∀ m, q.2 = some m → m < 1000) → ZP l D zm_X12_lure 51 [some (.ref 109), some (.int (nI i)), some (.int (nI q.1)), some (.int (zo (-4) q.2)), some (.int (nI c)), some (.int (nI t)), some (.int (nI n)), v7] [] J (zF tw) (fun v J G => v = some (aLure s (nI i)) ∧ G = zF tw ∧ ∃ g, zFL s I J g) := by
                  intro e3
                  induction e3 with
                  | zero =>
                    intro n J g q v7 he3
                    exact absurd he3 (by omega)
                  | succ e3 ih3 =>
                    intro n J g q v7 hd3 hn hF hq hqb hql
                    refine P_iload (pc := 51) dX12_lure_51 rfl ?_
                    refine P_aload_n (pc := 53) dX12_lure_53 rfl ?_
                    refine P_getr (pc := 54) 12 2 dX12_lure_54 fl_X12_13 sh_109 fr_12_2 F_109_2 ?_
                    refine P_iconst (pc := 57) (x := nI 0) dX12_lure_57 (by decide) ?_
                    refine P_iald (pc := 58) (0) (x := nI (s 111 0)) dX12_lure_58 sh_111 rfl (by first | omega | (have := hT.1.1 (8 * c + n); omega)) (by decide) ((hF.R hR) 111 _ rfl) ?_
                    refine P_icmp_geN (pc := 59) (tgt := 155) dX12_lure_59 (by decide) (by first | omega | (have := hT.1.1 (8 * c + n); omega)) (by first | omega | (have := hT.1.1 (8 * c + n); omega)) (fun h59 => ?_) (fun h59 => ?_)
                    · refine P_iincN (pc := 155) (c := 1) dX12_lure_155 rfl (by decide) (by decide) rfl ?_
                      refine P_goto (pc := 158) (tgt := 37) dX12_lure_158 (by decide) ?_
                      exact ih2 (t + 1) J g q _ _ (by omega) (by omega) hF (by rw [luT, ← hqT]; rw [show n = s 111 0 by omega] at hq; exact hq) hqb hql
                    · refine P_aload_n (pc := 62) dX12_lure_62 rfl ?_
                      refine P_getr (pc := 63) 12 20 dX12_lure_63 fl_X12_50 sh_109 fr_12_20 F_109_20 ?_
                      refine P_bipush (pc := 66) (x := nI 8) dX12_lure_66 (by decide) ?_
                      refine P_iload (pc := 68) dX12_lure_68 rfl ?_
                      refine P_imulN (pc := 70) dX12_lure_70 ?_
                      refine P_iload (pc := 71) dX12_lure_71 rfl ?_
                      refine P_iaddN (pc := 73) dX12_lure_73 ?_
                      refine P_iald (pc := 74) (((8 * c) + n)) (x := nI (s 123 ((8 * c) + n))) dX12_lure_74 sh_123 rfl (by first | omega | (have := hT.1.1 (8 * c + n); omega)) (by decide) ((hF.R hR) 123 _ rfl) ?_
                      refine P_sipush (pc := 75) (x := nI 10000) dX12_lure_75 (by decide) ?_
                      refine P_icmp_geN (pc := 78) (tgt := 149) dX12_lure_78 (by decide) (by first | omega | (have := hT.1.1 (8 * c + n); omega)) (by first | omega | (have := hT.1.1 (8 * c + n); omega)) (fun h78 => ?_) (fun h78 => ?_)
                      · refine P_iincN (pc := 149) (c := 1) dX12_lure_149 rfl (by decide) (by decide) rfl ?_
                        refine P_goto (pc := 152) (tgt := 51) dX12_lure_152 (by decide) ?_
                        exact ih3 (n + 1) J g q _ (by omega) (by omega) hF (by rw [luN, if_neg (by omega)]; exact hq) hqb hql
                      · refine P_aload_n (pc := 81) dX12_lure_81 rfl ?_
                        refine P_iconst (pc := 82) (x := nI 0) dX12_lure_82 (by decide) ?_
                        refine P_sipush (pc := 83) (x := nI 352) dX12_lure_83 (by decide) ?_
                        obtain ⟨_, J1, _, kc, rfl, rfl, hC⟩ := c_copy (l := l) (D := D) (tw := tw) (a := 0) (b := 352) hF.2.2.1 (by omega) (by omega) (by omega)
                        rw [zCopy_eq hF.2.2.2] at hC
                        have hF1 := hF.one hC (fun j hj => zCopy_out hj)
                        refine P_callV (pc := 86) (S := []) (As := [_, _]) kc dX12_lure_86 ok_X12_copy ml_X12_203 iv_X12_copy ⟨by decide, by decide⟩ zret_v rfl ⟨rfl, by decide⟩ sh_109 ⟨by decide, rfl⟩ (Nat.le_of_ble_eq_true rfl) ?_
                        refine P_aload_n (pc := 89) dX12_lure_89 rfl ?_
                        refine P_sipush (pc := 90) (x := nI 352) dX12_lure_90 (by decide) ?_
                        refine P_iload (pc := 93) dX12_lure_93 rfl ?_
                        refine P_iload (pc := 95) dX12_lure_95 rfl ?_
                        refine P_iload (pc := 97) dX12_lure_97 rfl ?_
                        obtain ⟨_, J2, _, kd, rfl, rfl, hC2⟩ := c_putUp (l := l) (D := D) (tw := tw) (b := 352) (c := c) (t := t) (n := n) hF1.2.2.1 (by omega) (by rw [zC0]; omega)
                        have hF2 := hF1.one hC2 (gPut_f hg8)
                        refine P_callV (pc := 99) (S := []) (As := [_, _, _, _]) kd dX12_lure_99 ok_X12_putUp ml_X12_209 iv_X12_putUp ⟨by decide, by decide⟩ zret_v rfl ⟨rfl, by decide⟩ sh_109 ⟨by decide, rfl⟩ (Nat.le_of_ble_eq_true rfl) ?_
                        refine P_aload_n (pc := 102) dX12_lure_102 rfl ?_
                        refine P_sipush (pc := 103) (x := nI 352) dX12_lure_103 (by decide) ?_
                        obtain ⟨_, K, _, kt, rfl, rfl, hG, _⟩ := c_taxBy (l := l) (D := D) (tw := tw) (s := sT s (gPut s c t n)) (b := 352) (hF2.R hR) hT hP (by omega) (gPut_k hg8 (by omega) (by omega) (by omega) hK hP)
                        have hF3 := hF2.go hG
                        have htb : zLt s c t n ≤ 3240 := taxAt_le (s := sT s (gPut s c t n)) (b := 352) hT hP (gPut_k hg8 (by omega) (by omega) (by omega) hK hP)
                        refine P_callV (pc := 106) (S := []) (As := [_]) kt dX12_lure_106 ok_X12_taxBy ml_X12_200 iv_X12_taxBy ⟨by decide, by decide⟩ (zret_i _) rfl ⟨rfl, by decide⟩ sh_109 ⟨by decide, rfl⟩ (Nat.le_of_ble_eq_true rfl) ?_
                        refine P_top (y := nI (zLt s c t n)) rfl ?_
                        refine P_istore (pc := 109) dX12_lure_109 (by decide) rfl ?_
                        refine P_iload (pc := 111) dX12_lure_111 rfl ?_
                        refine P_iload_n (pc := 113) dX12_lure_113 rfl ?_
                        refine P_sel2 (pc := 114) (zo (-4) (if q.1 < zLt s c t n then some (100 * c + 10 * t + n) else q.2)) 135 (fun k135_114 => ?_) ?_
                        · refine P_icmp_leN (pc := 114) (tgt := 134) dX12_lure_114 (by decide) (by first | omega | (have := hT.1.1 (8 * c + n); omega)) (by first | omega | (have := hT.1.1 (8 * c + n); omega)) (fun h114 => ?_) (fun h114 => ?_)
                          · refine P_iload_n (pc := 134) dX12_lure_134 rfl ?_
                            exact k135_114 _ (by rw [if_neg (by omega)])
                          · refine P_bipush (pc := 117) (x := nI 100) dX12_lure_117 (by decide) ?_
                            refine P_iload (pc := 119) dX12_lure_119 rfl ?_
                            refine P_imulN (pc := 121) dX12_lure_121 ?_
                            refine P_bipush (pc := 122) (x := nI 10) dX12_lure_122 (by decide) ?_
                            refine P_iload (pc := 124) dX12_lure_124 rfl ?_
                            refine P_imulN (pc := 126) dX12_lure_126 ?_
                            refine P_iaddN (pc := 127) dX12_lure_127 ?_
                            refine P_iload (pc := 128) dX12_lure_128 rfl ?_
                            refine P_iaddN (pc := 130) dX12_lure_130 ?_
                            refine P_goto (pc := 131) (tgt := 135) dX12_lure_131 (by decide) ?_
                            exact k135_114 _ (by rw [if_pos (by omega)]; rfl)
                        · refine P_istore_n (pc := 135) dX12_lure_135 (by decide) rfl ?_
                          refine P_iload (pc := 136) dX12_lure_136 rfl ?_
                          refine P_iload_n (pc := 138) dX12_lure_138 rfl ?_
                          refine P_sel2 (pc := 139) (nI (if q.1 < zLt s c t n then zLt s c t n else q.1)) 148 (fun k148_139 => ?_) ?_
                          · refine P_icmp_leN (pc := 139) (tgt := 147) dX12_lure_139 (by decide) (by first | omega | (have := hT.1.1 (8 * c + n); omega)) (by first | omega | (have := hT.1.1 (8 * c + n); omega)) (fun h139 => ?_) (fun h139 => ?_)
                            · refine P_iload_n (pc := 147) dX12_lure_147 rfl ?_
                              exact k148_139 _ (by rw [if_neg (by omega)])
                            · refine P_iload (pc := 142) dX12_lure_142 rfl ?_
                              refine P_goto (pc := 144) (tgt := 148) dX12_lure_144 (by decide) ?_
                              exact k148_139 _ (by rw [if_pos (by omega)])
                          · refine P_istore_n (pc := 148) dX12_lure_148 (by decide) rfl ?_
                            refine P_iincN (pc := 149) (c := 1) dX12_lure_149 rfl (by decide) (by decide) rfl ?_
                            refine P_goto (pc := 152) (tgt := 51) dX12_lure_152 (by decide) ?_
                            by_cases hlt : q.1 < zLt s c t n
                            · simp only [if_pos hlt]
                              exact ih3 (n + 1) K _ (zLt s c t n, some (100 * c + 10 * t + n)) _ (by omega) (by omega) hF3 (by rw [luN, if_pos ⟨by omega, by rw [← hq]; exact hlt⟩]) htb (fun m hm => by cases hm; omega)
                            · simp only [if_neg hlt]
                              exact ih3 (n + 1) K _ q _ (by omega) (by omega) hF3 (by rw [luN, if_neg (fun z => hlt (by rw [hq]; exact z.2))]; exact hq) hqb hql
                exact loopN (s 111 0 + 1) 0 J g q _ (by omega) (by omega) hF (by rw [hqT]; exact hq) hqb hql
          exact loopT (s 111 0 + 1) 0 J g q _ _ (by omega) (by omega) hF (by rw [hqC]; exact hq) hqb hql
    exact loop (s 111 0 + 1) 0 J0 (s 122) (taxAt s 0, none) none none none (by omega) (by omega) hF0 rfl (taxAt_le hT hP hK) (fun m hm => by cases hm)
  · refine P_iconst (pc := 9) (x := (-1)) dX12_lure_9 (by decide) ?_
    exact P_iret (pc := 10) dX12_lure_10 (⟨by unfold aLure; rw [if_neg (by rw [h6]; decide)], rfl, _, zFL.rf hR⟩)
