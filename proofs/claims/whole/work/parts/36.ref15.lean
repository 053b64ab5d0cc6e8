set_option maxRecDepth 20000 in
theorem c_here {l : Launch} {D : va_G} {tw : Nat} {I : AI} {tx : Nat → Nat} {tn : Nat} (hX : RefX tx tn I) {p : Nat} (hp : I 109 14 = nI p) (hp2 : p ≤ 10000) : ZP l D zm_X12_here 0 (zent 1 [.ref 109]) [] I (zF tw) (fun v J G => v = some (zo (-1) (zCh tx tn p)) ∧ I = J ∧ G = zF tw) := by
  have ht := hX.2.1
  show ZP _ _ _ _ [some _] _ _ _ _
  refine P_aload_n (pc := 0) dX12_here_0 rfl ?_
  refine P_geti (pc := 1) 12 14 (x := nI (p)) dX12_here_1 fl_X12_101 sh_109 fi_12_14 (hp) ?_
  refine P_aload_n (pc := 4) dX12_here_4 rfl ?_
  refine P_geti (pc := 5) 12 1 (x := nI (tn)) dX12_here_5 fl_X12_98 sh_109 fi_12_1 (hX.1) ?_
  refine P_icmp_geN (pc := 8) (tgt := 23) dX12_here_8 (by decide) (by omega) (by omega) (fun h8 => ?_) (fun h8 => ?_)
  · refine P_iconst (pc := 23) (x := (-1)) dX12_here_23 (by decide) ?_
    exact P_iret (pc := 24) dX12_here_24 (⟨by unfold zCh; rw [if_neg (by omega)]; rfl, rfl, rfl⟩)
  · refine P_aload_n (pc := 11) dX12_here_11 rfl ?_
    refine P_getr (pc := 12) 12 0 dX12_here_12 fl_X12_7 sh_109 fr_12_0 F_109_0 ?_
    refine P_aload_n (pc := 15) dX12_here_15 rfl ?_
    refine P_geti (pc := 16) 12 14 (x := nI (p)) dX12_here_16 fl_X12_101 sh_109 fi_12_14 (hp) ?_
    refine P_bald (pc := 19) ((p)) (x := nI (tx p)) dX12_here_19 sh_110 rfl (by omega) (by decide) (hX.2.2.1 p) ?_
    refine P_goto (pc := 20) (tgt := 24) dX12_here_20 (by decide) ?_
    exact P_iret (pc := 24) dX12_here_24 (⟨by unfold zCh; rw [if_pos (by omega)]; rfl, rfl, rfl⟩)
theorem zo_chr {o : Option Nat} {be : Nat} (hb : be < 2 ^ 31) (ho : ∀ c, o = some c → c < 2 ^ 31) : zo (-1) o = nI be ↔ o = some be := by
  have h := zo_inj (k := -1) (by decide) (a := o) (b := some be) ho (fun m hm => by cases hm; exact hb)
  exact h
set_option maxRecDepth 20000 in
theorem c_number {l : Launch} {D : va_G} {tw : Nat} {I : AI} {tx : Nat → Nat} {tn : Nat} (hX : RefX tx tn I) {p : Nat} {b : Bool} {lo hi be : Nat} (hp : I 109 14 = nI p) (hb : I 109 15 = zb b) (hp2 : p ≤ 9000) (hlo : lo ≤ 1000) (hhi : hi ≤ 1000) (hbe : be ≤ 1000) : ZP l D zm_X12_number 0 (zent 6 [.ref 109, .int (nI lo), .int (nI hi), .int (nI be)]) [] I (zF tw) (fun v J G => v = some (nI (zNum tx tn p).2) ∧ G = zF tw ∧ zFN I J ∧ J 109 14 = nI (p + (zNum tx tn p).1 + 1) ∧ J 109 15 = zb (b && zNok tx tn p lo hi be)) := by
  have ht := hX.2.1
  show ZP _ _ _ _ [some _, some _, some _, some _, none, none] _ _ _ _
  refine P_iconst (pc := 0) (x := nI 0) dX12_number_0 (by decide) ?_
  refine P_istore (pc := 1) dX12_number_1 (by decide) rfl ?_
  refine P_iconst (pc := 3) (x := nI 0) dX12_number_3 (by decide) ?_
  refine P_istore (pc := 4) dX12_number_4 (by decide) rfl ?_
  refine P_iload (pc := 6) dX12_number_6 rfl ?_
  refine P_iconst (pc := 8) (x := nI 2) dX12_number_8 (by decide) ?_
  refine P_icmp_geF (pc := 9) (tgt := 57) dX12_number_9 (by decide) (by decide) ?_
  refine P_aload_n (pc := 12) dX12_number_12 rfl ?_
  obtain ⟨_, _, _, kh1, rfl, rfl, rfl⟩ := c_here (l := l) (D := D) (tw := tw) (I := I) hX (p := p) hp (by omega)
  refine P_callV (pc := 13) (S := []) (As := []) kh1 dX12_number_13 ok_X12_here ml_X12_104 iv_X12_here ⟨by decide, by decide⟩ (zret_i _) rfl ⟨rfl, by decide⟩ sh_109 ⟨by decide, rfl⟩ (Nat.le_of_ble_eq_true rfl) ?_
  rcases hc0 : zCh tx tn p with _ | c0
  · refine P_bipush (pc := 16) (x := nI 48) dX12_number_16 (by decide) ?_
    refine P_bipush (pc := 18) (x := nI 57) dX12_number_18 (by decide) ?_
    obtain ⟨_, _, _, ki2, rfl, rfl, rfl⟩ := c_in (l := l) (D := D) (tw := tw) (I := I) (x := (-1)) (lo := nI 48) (hi := nI 57)
    refine P_callS (pc := 20) (S := []) (As := [_, _, _]) ki2 dX12_number_20 ok_X12_in ml_X12_94 is_X12_in ⟨by decide, by decide⟩ (zret_b (decide (nI 48 ≤ (-1) ∧ (-1) ≤ nI 57))) rfl ⟨rfl, by decide⟩ (Nat.le_of_ble_eq_true rfl) ?_
    refine P_if_eqT (pc := 23) (tgt := 57) dX12_number_23 (by decide) (by decide) ?_
    have hnum : zNum tx tn p = (0, 0) := zNum_0 (zDg_no hc0)
    refine P_aload_n (pc := 57) dX12_number_57 rfl ?_
    refine P_aload_n (pc := 58) dX12_number_58 rfl ?_
    refine P_geti (pc := 59) 12 15 (x := zb (b)) dX12_number_59 fl_X12_108 sh_109 fi_12_15 (hb) ?_
    refine P_sel1 (pc := 62) (zb (b && zNok tx tn p lo hi be)) 93 (fun k93_62 => ?_) ?_
    · refine P_if_eqB (pc := 62) (tgt := 92) dX12_number_62 (by decide) (fun h62 => ?_) (fun h62 => ?_)
      · refine P_iconst (pc := 92) (x := nI 0) dX12_number_92 (by decide) ?_
        exact k93_62 _ (by rw [h62, Bool.false_and]; rfl)
      · refine P_iload (pc := 65) dX12_number_65 rfl ?_
        refine P_if_leT (pc := 67) (tgt := 92) dX12_number_67 (by decide) (by decide) ?_
        refine P_iconst (pc := 92) (x := nI 0) dX12_number_92 (by decide) ?_
        exact k93_62 _ (by unfold zNok; rw [hnum]; simp only [Nat.lt_irrefl, decide_false, Bool.false_and, Bool.and_false]; rfl)
    · refine P_puti (pc := 93) 12 15 dX12_number_93 fl_X12_108 sh_109 fp_12_15 (by cases (b && zNok tx tn p lo hi be) <;> rfl) (by cases (b && zNok tx tn p lo hi be) <;> rfl) ?_
      refine P_aload_n (pc := 96) dX12_number_96 rfl ?_
      refine P_dup (pc := 97) dX12_number_97 rfl ?_
      refine P_geti (pc := 98) 12 14 (x := nI (p)) dX12_number_98 fl_X12_101 sh_109 fi_12_14 (hp) ?_
      refine P_iconst (pc := 101) (x := nI 1) dX12_number_101 (by decide) ?_
      refine P_iaddN (pc := 102) dX12_number_102 ?_
      refine P_puti (pc := 103) 12 14 dX12_number_103 fl_X12_101 sh_109 fp_12_14 rfl rfl ?_
      refine P_iload (pc := 106) dX12_number_106 rfl ?_
      refine P_iret (pc := 108) dX12_number_108 ?_
      refine ⟨by rw [hnum], rfl, (zFN.rf.f (Or.inr rfl)).f (Or.inl rfl), by rw [hnum]; rfl, rfl⟩
  · have hb0 := zCh_lt hX.2.2.2 hc0
    refine P_bipush (pc := 16) (x := nI 48) dX12_number_16 (by decide) ?_
    refine P_bipush (pc := 18) (x := nI 57) dX12_number_18 (by decide) ?_
    obtain ⟨_, _, _, ki3, rfl, rfl, rfl⟩ := c_in (l := l) (D := D) (tw := tw) (I := I) (x := (nI (c0))) (lo := nI 48) (hi := nI 57)
    refine P_callS (pc := 20) (S := []) (As := [_, _, _]) ki3 dX12_number_20 ok_X12_in ml_X12_94 is_X12_in ⟨by decide, by decide⟩ (zret_b (decide (nI 48 ≤ (nI (c0)) ∧ (nI (c0)) ≤ nI 57))) rfl ⟨rfl, by decide⟩ (Nat.le_of_ble_eq_true rfl) ?_
    refine P_if_eqB (pc := 23) (tgt := 57) dX12_number_23 (by decide) (fun h23 => ?_) (fun h23 => ?_)
    · have hnum : zNum tx tn p = (0, 0) := zNum_0 (zDg_bad hc0 (by have h9 := of_decide_eq_false h23; rw [nI_leI (by omega) (by omega), nI_leI (by omega) (by omega)] at h9; exact h9))
      refine P_aload_n (pc := 57) dX12_number_57 rfl ?_
      refine P_aload_n (pc := 58) dX12_number_58 rfl ?_
      refine P_geti (pc := 59) 12 15 (x := zb (b)) dX12_number_59 fl_X12_108 sh_109 fi_12_15 (hb) ?_
      refine P_sel1 (pc := 62) (zb (b && zNok tx tn p lo hi be)) 93 (fun k93_62 => ?_) ?_
      · refine P_if_eqB (pc := 62) (tgt := 92) dX12_number_62 (by decide) (fun h62 => ?_) (fun h62 => ?_)
        · refine P_iconst (pc := 92) (x := nI 0) dX12_number_92 (by decide) ?_
          exact k93_62 _ (by rw [h62, Bool.false_and]; rfl)
        · refine P_iload (pc := 65) dX12_number_65 rfl ?_
          refine P_if_leT (pc := 67) (tgt := 92) dX12_number_67 (by decide) (by decide) ?_
          refine P_iconst (pc := 92) (x := nI 0) dX12_number_92 (by decide) ?_
          exact k93_62 _ (by unfold zNok; rw [hnum]; simp only [Nat.lt_irrefl, decide_false, Bool.false_and, Bool.and_false]; rfl)
      · refine P_puti (pc := 93) 12 15 dX12_number_93 fl_X12_108 sh_109 fp_12_15 (by cases (b && zNok tx tn p lo hi be) <;> rfl) (by cases (b && zNok tx tn p lo hi be) <;> rfl) ?_
        refine P_aload_n (pc := 96) dX12_number_96 rfl ?_
        refine P_dup (pc := 97) dX12_number_97 rfl ?_
        refine P_geti (pc := 98) 12 14 (x := nI (p)) dX12_number_98 fl_X12_101 sh_109 fi_12_14 (hp) ?_
        refine P_iconst (pc := 101) (x := nI 1) dX12_number_101 (by decide) ?_
        refine P_iaddN (pc := 102) dX12_number_102 ?_
        refine P_puti (pc := 103) 12 14 dX12_number_103 fl_X12_101 sh_109 fp_12_14 rfl rfl ?_
        refine P_iload (pc := 106) dX12_number_106 rfl ?_
        refine P_iret (pc := 108) dX12_number_108 ?_
        refine ⟨by rw [hnum], rfl, (zFN.rf.f (Or.inr rfl)).f (Or.inl rfl), by rw [hnum]; rfl, rfl⟩
    · have hd0 : 48 ≤ c0 ∧ c0 ≤ 57 := by have h9 := of_decide_eq_true h23; rw [nI_leI (by omega) (by omega), nI_leI (by omega) (by omega)] at h9; exact h9
      refine P_bipush (pc := 26) (x := nI 10) dX12_number_26 (by decide) ?_
      refine P_iload (pc := 28) dX12_number_28 rfl ?_
      refine P_imulN (pc := 30) dX12_number_30 ?_
      refine P_aload_n (pc := 31) dX12_number_31 rfl ?_
      obtain ⟨_, _, _, kh4, rfl, rfl, rfl⟩ := c_here (l := l) (D := D) (tw := tw) (I := I) hX (p := p) hp (by omega)
      refine P_callV (pc := 32) (S := [_]) (As := []) kh4 dX12_number_32 ok_X12_here ml_X12_104 iv_X12_here ⟨by decide, by decide⟩ (zret_i _) rfl ⟨rfl, by decide⟩ sh_109 ⟨by decide, rfl⟩ (Nat.le_of_ble_eq_true rfl) ?_
      rw [hc0]
      refine P_iaddN (pc := 35) dX12_number_35 ?_
      refine P_bipush (pc := 36) (x := nI 48) dX12_number_36 (by decide) ?_
      refine P_isubN (pc := 38) dX12_number_38 (by omega) ?_
      refine P_istore (pc := 39) dX12_number_39 (by decide) rfl ?_
      refine P_aload_n (pc := 41) dX12_number_41 rfl ?_
      refine P_dup (pc := 42) dX12_number_42 rfl ?_
      refine P_geti (pc := 43) 12 14 (x := nI (p)) dX12_number_43 fl_X12_101 sh_109 fi_12_14 (hp) ?_
      refine P_iconst (pc := 46) (x := nI 1) dX12_number_46 (by decide) ?_
      refine P_iaddN (pc := 47) dX12_number_47 ?_
      refine P_puti (pc := 48) 12 14 dX12_number_48 fl_X12_101 sh_109 fp_12_14 rfl rfl ?_
      refine P_iincN (pc := 51) (c := 1) dX12_number_51 rfl (by decide) (by decide) rfl ?_
      refine P_goto (pc := 54) (tgt := 6) dX12_number_54 (by decide) ?_
      refine P_iload (pc := 6) dX12_number_6 rfl ?_
      refine P_iconst (pc := 8) (x := nI 2) dX12_number_8 (by decide) ?_
      refine P_icmp_geF (pc := 9) (tgt := 57) dX12_number_9 (by decide) (by decide) ?_
      refine P_aload_n (pc := 12) dX12_number_12 rfl ?_
      obtain ⟨_, _, _, kh5, rfl, rfl, rfl⟩ := c_here (l := l) (D := D) (tw := tw) (I := zu I 109 14 (nI (p + 1))) (hX.go (zFN.rf.f (Or.inl rfl))) (p := (p + 1)) rfl (by omega)
      refine P_callV (pc := 13) (S := []) (As := []) kh5 dX12_number_13 ok_X12_here ml_X12_104 iv_X12_here ⟨by decide, by decide⟩ (zret_i _) rfl ⟨rfl, by decide⟩ sh_109 ⟨by decide, rfl⟩ (Nat.le_of_ble_eq_true rfl) ?_
      rcases hc1 : zCh tx tn (p + 1) with _ | c1
      · refine P_bipush (pc := 16) (x := nI 48) dX12_number_16 (by decide) ?_
        refine P_bipush (pc := 18) (x := nI 57) dX12_number_18 (by decide) ?_
        obtain ⟨_, _, _, ki6, rfl, rfl, rfl⟩ := c_in (l := l) (D := D) (tw := tw) (I := zu I 109 14 (nI (p + 1))) (x := (-1)) (lo := nI 48) (hi := nI 57)
        refine P_callS (pc := 20) (S := []) (As := [_, _, _]) ki6 dX12_number_20 ok_X12_in ml_X12_94 is_X12_in ⟨by decide, by decide⟩ (zret_b (decide (nI 48 ≤ (-1) ∧ (-1) ≤ nI 57))) rfl ⟨rfl, by decide⟩ (Nat.le_of_ble_eq_true rfl) ?_
        refine P_if_eqT (pc := 23) (tgt := 57) dX12_number_23 (by decide) (by decide) ?_
        have hnum : zNum tx tn p = (1, 10 * 0 + c0 - 48) := (zNum_1 (zDg_ok hc0 hd0) (zDg_no hc1)).trans (by congr 1; omega)
        refine P_aload_n (pc := 57) dX12_number_57 rfl ?_
        refine P_aload_n (pc := 58) dX12_number_58 rfl ?_
        refine P_geti (pc := 59) 12 15 (x := zb (b)) dX12_number_59 fl_X12_108 sh_109 fi_12_15 (hb) ?_
        refine P_sel1 (pc := 62) (zb (b && zNok tx tn p lo hi be)) 93 (fun k93_62 => ?_) ?_
        · refine P_if_eqB (pc := 62) (tgt := 92) dX12_number_62 (by decide) (fun h62 => ?_) (fun h62 => ?_)
          · refine P_iconst (pc := 92) (x := nI 0) dX12_number_92 (by decide) ?_
            exact k93_62 _ (by rw [h62, Bool.false_and]; rfl)
          · refine P_iload (pc := 65) dX12_number_65 rfl ?_
            refine P_if_leF (pc := 67) (tgt := 92) dX12_number_67 (by decide) (by decide) ?_
            refine P_iload (pc := 70) dX12_number_70 rfl ?_
            refine P_iload_n (pc := 72) dX12_number_72 rfl ?_
            refine P_iload_n (pc := 73) dX12_number_73 rfl ?_
            obtain ⟨_, _, _, ki7, rfl, rfl, rfl⟩ := c_in (l := l) (D := D) (tw := tw) (I := zu I 109 14 (nI (p + 1))) (x := (nI ((((10 * 0) + c0) - 48)))) (lo := nI lo) (hi := nI hi)
            refine P_callS (pc := 74) (S := [_]) (As := [_, _, _]) ki7 dX12_number_74 ok_X12_in ml_X12_94 is_X12_in ⟨by decide, by decide⟩ (zret_b (decide (nI lo ≤ (nI ((((10 * 0) + c0) - 48))) ∧ (nI ((((10 * 0) + c0) - 48))) ≤ nI hi))) rfl ⟨rfl, by decide⟩ (Nat.le_of_ble_eq_true rfl) ?_
            refine P_if_eqB (pc := 77) (tgt := 92) dX12_number_77 (by decide) (fun h77 => ?_) (fun h77 => ?_)
            · refine P_iconst (pc := 92) (x := nI 0) dX12_number_92 (by decide) ?_
              exact k93_62 _ (by have h8 : ¬ (lo ≤ (10 * 0 + c0 - 48) ∧ (10 * 0 + c0 - 48) ≤ hi) := (by have h9 := of_decide_eq_false h77; rw [nI_leI (by omega) (by omega), nI_leI (by omega) (by omega)] at h9; exact h9); unfold zNok; rw [hnum]; simp only [decide_eq_false h8, Bool.false_and, Bool.and_false]; rfl)
            · refine P_aload_n (pc := 80) dX12_number_80 rfl ?_
              obtain ⟨_, _, _, kh8, rfl, rfl, rfl⟩ := c_here (l := l) (D := D) (tw := tw) (I := zu I 109 14 (nI (p + 1))) (hX.go (zFN.rf.f (Or.inl rfl))) (p := (p + 1)) rfl (by omega)
              refine P_callV (pc := 81) (S := [_]) (As := []) kh8 dX12_number_81 ok_X12_here ml_X12_104 iv_X12_here ⟨by decide, by decide⟩ (zret_i _) rfl ⟨rfl, by decide⟩ sh_109 ⟨by decide, rfl⟩ (Nat.le_of_ble_eq_true rfl) ?_
              refine P_iload_n (pc := 84) dX12_number_84 rfl ?_
              refine P_icmp_ne (pc := 85) (tgt := 92) dX12_number_85 (by decide) (fun h85 => ?_) (fun h85 => ?_)
              · refine P_iconst (pc := 92) (x := nI 0) dX12_number_92 (by decide) ?_
                exact k93_62 _ (by have h8 : lo ≤ (10 * 0 + c0 - 48) ∧ (10 * 0 + c0 - 48) ≤ hi := (by have h9 := of_decide_eq_true h77; rw [nI_leI (by omega) (by omega), nI_leI (by omega) (by omega)] at h9; exact h9); have h7 : ¬ zCh tx tn (p + 1) = some be := fun z => h85 (by rw [z]; rfl); unfold zNok zNe; rw [hnum]; simp only [decide_eq_false h7, Bool.and_false]; rfl)
              · refine P_iconst (pc := 88) (x := nI 1) dX12_number_88 (by decide) ?_
                refine P_goto (pc := 89) (tgt := 93) dX12_number_89 (by decide) ?_
                exact k93_62 _ (by have h8 : lo ≤ (10 * 0 + c0 - 48) ∧ (10 * 0 + c0 - 48) ≤ hi := (by have h9 := of_decide_eq_true h77; rw [nI_leI (by omega) (by omega), nI_leI (by omega) (by omega)] at h9; exact h9); have h7 : zCh tx tn (p + 1) = some be := (zo_chr (by omega) (fun c hc => by have := zCh_lt hX.2.2.2 hc; omega)).mp h85; unfold zNok zNe; rw [hnum, h62]; simp only [decide_eq_true h8, decide_eq_true h7]; rfl)
        · refine P_puti (pc := 93) 12 15 dX12_number_93 fl_X12_108 sh_109 fp_12_15 (by cases (b && zNok tx tn p lo hi be) <;> rfl) (by cases (b && zNok tx tn p lo hi be) <;> rfl) ?_
          refine P_aload_n (pc := 96) dX12_number_96 rfl ?_
          refine P_dup (pc := 97) dX12_number_97 rfl ?_
          refine P_geti (pc := 98) 12 14 (x := nI ((p + 1))) dX12_number_98 fl_X12_101 sh_109 fi_12_14 (rfl) ?_
          refine P_iconst (pc := 101) (x := nI 1) dX12_number_101 (by decide) ?_
          refine P_iaddN (pc := 102) dX12_number_102 ?_
          refine P_puti (pc := 103) 12 14 dX12_number_103 fl_X12_101 sh_109 fp_12_14 rfl rfl ?_
          refine P_iload (pc := 106) dX12_number_106 rfl ?_
          refine P_iret (pc := 108) dX12_number_108 ?_
          refine ⟨by rw [hnum], rfl, ((zFN.rf.f (Or.inl rfl)).f (Or.inr rfl)).f (Or.inl rfl), by rw [hnum]; rfl, rfl⟩
      · have hb1 := zCh_lt hX.2.2.2 hc1
        refine P_bipush (pc := 16) (x := nI 48) dX12_number_16 (by decide) ?_
        refine P_bipush (pc := 18) (x := nI 57) dX12_number_18 (by decide) ?_
        obtain ⟨_, _, _, ki9, rfl, rfl, rfl⟩ := c_in (l := l) (D := D) (tw := tw) (I := zu I 109 14 (nI (p + 1))) (x := (nI (c1))) (lo := nI 48) (hi := nI 57)
        refine P_callS (pc := 20) (S := []) (As := [_, _, _]) ki9 dX12_number_20 ok_X12_in ml_X12_94 is_X12_in ⟨by decide, by decide⟩ (zret_b (decide (nI 48 ≤ (nI (c1)) ∧ (nI (c1)) ≤ nI 57))) rfl ⟨rfl, by decide⟩ (Nat.le_of_ble_eq_true rfl) ?_
        refine P_if_eqB (pc := 23) (tgt := 57) dX12_number_23 (by decide) (fun h23 => ?_) (fun h23 => ?_)
        · have hnum : zNum tx tn p = (1, 10 * 0 + c0 - 48) := (zNum_1 (zDg_ok hc0 hd0) (zDg_bad hc1 (by have h9 := of_decide_eq_false h23; rw [nI_leI (by omega) (by omega), nI_leI (by omega) (by omega)] at h9; exact h9))).trans (by congr 1; omega)
          refine P_aload_n (pc := 57) dX12_number_57 rfl ?_
          refine P_aload_n (pc := 58) dX12_number_58 rfl ?_
          refine P_geti (pc := 59) 12 15 (x := zb (b)) dX12_number_59 fl_X12_108 sh_109 fi_12_15 (hb) ?_
          refine P_sel1 (pc := 62) (zb (b && zNok tx tn p lo hi be)) 93 (fun k93_62 => ?_) ?_
          · refine P_if_eqB (pc := 62) (tgt := 92) dX12_number_62 (by decide) (fun h62 => ?_) (fun h62 => ?_)
            · refine P_iconst (pc := 92) (x := nI 0) dX12_number_92 (by decide) ?_
              exact k93_62 _ (by rw [h62, Bool.false_and]; rfl)
            · refine P_iload (pc := 65) dX12_number_65 rfl ?_
              refine P_if_leF (pc := 67) (tgt := 92) dX12_number_67 (by decide) (by decide) ?_
              refine P_iload (pc := 70) dX12_number_70 rfl ?_
              refine P_iload_n (pc := 72) dX12_number_72 rfl ?_
              refine P_iload_n (pc := 73) dX12_number_73 rfl ?_
              obtain ⟨_, _, _, ki10, rfl, rfl, rfl⟩ := c_in (l := l) (D := D) (tw := tw) (I := zu I 109 14 (nI (p + 1))) (x := (nI ((((10 * 0) + c0) - 48)))) (lo := nI lo) (hi := nI hi)
              refine P_callS (pc := 74) (S := [_]) (As := [_, _, _]) ki10 dX12_number_74 ok_X12_in ml_X12_94 is_X12_in ⟨by decide, by decide⟩ (zret_b (decide (nI lo ≤ (nI ((((10 * 0) + c0) - 48))) ∧ (nI ((((10 * 0) + c0) - 48))) ≤ nI hi))) rfl ⟨rfl, by decide⟩ (Nat.le_of_ble_eq_true rfl) ?_
              refine P_if_eqB (pc := 77) (tgt := 92) dX12_number_77 (by decide) (fun h77 => ?_) (fun h77 => ?_)
              · refine P_iconst (pc := 92) (x := nI 0) dX12_number_92 (by decide) ?_
                exact k93_62 _ (by have h8 : ¬ (lo ≤ (10 * 0 + c0 - 48) ∧ (10 * 0 + c0 - 48) ≤ hi) := (by have h9 := of_decide_eq_false h77; rw [nI_leI (by omega) (by omega), nI_leI (by omega) (by omega)] at h9; exact h9); unfold zNok; rw [hnum]; simp only [decide_eq_false h8, Bool.false_and, Bool.and_false]; rfl)
              · refine P_aload_n (pc := 80) dX12_number_80 rfl ?_
                obtain ⟨_, _, _, kh11, rfl, rfl, rfl⟩ := c_here (l := l) (D := D) (tw := tw) (I := zu I 109 14 (nI (p + 1))) (hX.go (zFN.rf.f (Or.inl rfl))) (p := (p + 1)) rfl (by omega)
                refine P_callV (pc := 81) (S := [_]) (As := []) kh11 dX12_number_81 ok_X12_here ml_X12_104 iv_X12_here ⟨by decide, by decide⟩ (zret_i _) rfl ⟨rfl, by decide⟩ sh_109 ⟨by decide, rfl⟩ (Nat.le_of_ble_eq_true rfl) ?_
                refine P_iload_n (pc := 84) dX12_number_84 rfl ?_
                refine P_icmp_ne (pc := 85) (tgt := 92) dX12_number_85 (by decide) (fun h85 => ?_) (fun h85 => ?_)
                · refine P_iconst (pc := 92) (x := nI 0) dX12_number_92 (by decide) ?_
                  exact k93_62 _ (by have h8 : lo ≤ (10 * 0 + c0 - 48) ∧ (10 * 0 + c0 - 48) ≤ hi := (by have h9 := of_decide_eq_true h77; rw [nI_leI (by omega) (by omega), nI_leI (by omega) (by omega)] at h9; exact h9); have h7 : ¬ zCh tx tn (p + 1) = some be := fun z => h85 (by rw [z]; rfl); unfold zNok zNe; rw [hnum]; simp only [decide_eq_false h7, Bool.and_false]; rfl)
                · refine P_iconst (pc := 88) (x := nI 1) dX12_number_88 (by decide) ?_
                  refine P_goto (pc := 89) (tgt := 93) dX12_number_89 (by decide) ?_
                  exact k93_62 _ (by have h8 : lo ≤ (10 * 0 + c0 - 48) ∧ (10 * 0 + c0 - 48) ≤ hi := (by have h9 := of_decide_eq_true h77; rw [nI_leI (by omega) (by omega), nI_leI (by omega) (by omega)] at h9; exact h9); have h7 : zCh tx tn (p + 1) = some be := (zo_chr (by omega) (fun c hc => by have := zCh_lt hX.2.2.2 hc; omega)).mp h85; unfold zNok zNe; rw [hnum, h62]; simp only [decide_eq_true h8, decide_eq_true h7]; rfl)
          · refine P_puti (pc := 93) 12 15 dX12_number_93 fl_X12_108 sh_109 fp_12_15 (by cases (b && zNok tx tn p lo hi be) <;> rfl) (by cases (b && zNok tx tn p lo hi be) <;> rfl) ?_
            refine P_aload_n (pc := 96) dX12_number_96 rfl ?_
            refine P_dup (pc := 97) dX12_number_97 rfl ?_
            refine P_geti (pc := 98) 12 14 (x := nI ((p + 1))) dX12_number_98 fl_X12_101 sh_109 fi_12_14 (rfl) ?_
            refine P_iconst (pc := 101) (x := nI 1) dX12_number_101 (by decide) ?_
            refine P_iaddN (pc := 102) dX12_number_102 ?_
            refine P_puti (pc := 103) 12 14 dX12_number_103 fl_X12_101 sh_109 fp_12_14 rfl rfl ?_
            refine P_iload (pc := 106) dX12_number_106 rfl ?_
            refine P_iret (pc := 108) dX12_number_108 ?_
            refine ⟨by rw [hnum], rfl, ((zFN.rf.f (Or.inl rfl)).f (Or.inr rfl)).f (Or.inl rfl), by rw [hnum]; rfl, rfl⟩
        · have hd1 : 48 ≤ c1 ∧ c1 ≤ 57 := by have h9 := of_decide_eq_true h23; rw [nI_leI (by omega) (by omega), nI_leI (by omega) (by omega)] at h9; exact h9
          refine P_bipush (pc := 26) (x := nI 10) dX12_number_26 (by decide) ?_
          refine P_iload (pc := 28) dX12_number_28 rfl ?_
          refine P_imulN (pc := 30) dX12_number_30 ?_
          refine P_aload_n (pc := 31) dX12_number_31 rfl ?_
          obtain ⟨_, _, _, kh12, rfl, rfl, rfl⟩ := c_here (l := l) (D := D) (tw := tw) (I := zu I 109 14 (nI (p + 1))) (hX.go (zFN.rf.f (Or.inl rfl))) (p := (p + 1)) rfl (by omega)
          refine P_callV (pc := 32) (S := [_]) (As := []) kh12 dX12_number_32 ok_X12_here ml_X12_104 iv_X12_here ⟨by decide, by decide⟩ (zret_i _) rfl ⟨rfl, by decide⟩ sh_109 ⟨by decide, rfl⟩ (Nat.le_of_ble_eq_true rfl) ?_
          rw [hc1]
          refine P_iaddN (pc := 35) dX12_number_35 ?_
          refine P_bipush (pc := 36) (x := nI 48) dX12_number_36 (by decide) ?_
          refine P_isubN (pc := 38) dX12_number_38 (by omega) ?_
          refine P_istore (pc := 39) dX12_number_39 (by decide) rfl ?_
          refine P_aload_n (pc := 41) dX12_number_41 rfl ?_
          refine P_dup (pc := 42) dX12_number_42 rfl ?_
          refine P_geti (pc := 43) 12 14 (x := nI ((p + 1))) dX12_number_43 fl_X12_101 sh_109 fi_12_14 (rfl) ?_
          refine P_iconst (pc := 46) (x := nI 1) dX12_number_46 (by decide) ?_
          refine P_iaddN (pc := 47) dX12_number_47 ?_
          refine P_puti (pc := 48) 12 14 dX12_number_48 fl_X12_101 sh_109 fp_12_14 rfl rfl ?_
          refine P_iincN (pc := 51) (c := 1) dX12_number_51 rfl (by decide) (by decide) rfl ?_
          refine P_goto (pc := 54) (tgt := 6) dX12_number_54 (by decide) ?_
          refine P_iload (pc := 6) dX12_number_6 rfl ?_
          refine P_iconst (pc := 8) (x := nI 2) dX12_number_8 (by decide) ?_
          refine P_icmp_geT (pc := 9) (tgt := 57) dX12_number_9 (by decide) (by decide) ?_
          have hnum : zNum tx tn p = (2, 10 * (10 * 0 + c0 - 48) + c1 - 48) := (zNum_2 (zDg_ok hc0 hd0) (zDg_ok hc1 hd1)).trans (by congr 1; omega)
          refine P_aload_n (pc := 57) dX12_number_57 rfl ?_
          refine P_aload_n (pc := 58) dX12_number_58 rfl ?_
          refine P_geti (pc := 59) 12 15 (x := zb (b)) dX12_number_59 fl_X12_108 sh_109 fi_12_15 (hb) ?_
          refine P_sel1 (pc := 62) (zb (b && zNok tx tn p lo hi be)) 93 (fun k93_62 => ?_) ?_
          · refine P_if_eqB (pc := 62) (tgt := 92) dX12_number_62 (by decide) (fun h62 => ?_) (fun h62 => ?_)
            · refine P_iconst (pc := 92) (x := nI 0) dX12_number_92 (by decide) ?_
              exact k93_62 _ (by rw [h62, Bool.false_and]; rfl)
            · refine P_iload (pc := 65) dX12_number_65 rfl ?_
              refine P_if_leF (pc := 67) (tgt := 92) dX12_number_67 (by decide) (by decide) ?_
              refine P_iload (pc := 70) dX12_number_70 rfl ?_
              refine P_iload_n (pc := 72) dX12_number_72 rfl ?_
              refine P_iload_n (pc := 73) dX12_number_73 rfl ?_
              obtain ⟨_, _, _, ki13, rfl, rfl, rfl⟩ := c_in (l := l) (D := D) (tw := tw) (I := zu (zu I 109 14 (nI (p + 1))) 109 14 (nI (p + 1 + 1))) (x := (nI ((((10 * (((10 * 0) + c0) - 48)) + c1) - 48)))) (lo := nI lo) (hi := nI hi)
              refine P_callS (pc := 74) (S := [_]) (As := [_, _, _]) ki13 dX12_number_74 ok_X12_in ml_X12_94 is_X12_in ⟨by decide, by decide⟩ (zret_b (decide (nI lo ≤ (nI ((((10 * (((10 * 0) + c0) - 48)) + c1) - 48))) ∧ (nI ((((10 * (((10 * 0) + c0) - 48)) + c1) - 48))) ≤ nI hi))) rfl ⟨rfl, by decide⟩ (Nat.le_of_ble_eq_true rfl) ?_
              refine P_if_eqB (pc := 77) (tgt := 92) dX12_number_77 (by decide) (fun h77 => ?_) (fun h77 => ?_)
              · refine P_iconst (pc := 92) (x := nI 0) dX12_number_92 (by decide) ?_
                exact k93_62 _ (by have h8 : ¬ (lo ≤ (10 * (10 * 0 + c0 - 48) + c1 - 48) ∧ (10 * (10 * 0 + c0 - 48) + c1 - 48) ≤ hi) := (by have h9 := of_decide_eq_false h77; rw [nI_leI (by omega) (by omega), nI_leI (by omega) (by omega)] at h9; exact h9); unfold zNok; rw [hnum]; simp only [decide_eq_false h8, Bool.false_and, Bool.and_false]; rfl)
              · refine P_aload_n (pc := 80) dX12_number_80 rfl ?_
                obtain ⟨_, _, _, kh14, rfl, rfl, rfl⟩ := c_here (l := l) (D := D) (tw := tw) (I := zu (zu I 109 14 (nI (p + 1))) 109 14 (nI (p + 1 + 1))) (hX.go ((zFN.rf.f (Or.inl rfl)).f (Or.inl rfl))) (p := (p + 2)) rfl (by omega)
                refine P_callV (pc := 81) (S := [_]) (As := []) kh14 dX12_number_81 ok_X12_here ml_X12_104 iv_X12_here ⟨by decide, by decide⟩ (zret_i _) rfl ⟨rfl, by decide⟩ sh_109 ⟨by decide, rfl⟩ (Nat.le_of_ble_eq_true rfl) ?_
                refine P_iload_n (pc := 84) dX12_number_84 rfl ?_
                refine P_icmp_ne (pc := 85) (tgt := 92) dX12_number_85 (by decide) (fun h85 => ?_) (fun h85 => ?_)
                · refine P_iconst (pc := 92) (x := nI 0) dX12_number_92 (by decide) ?_
                  exact k93_62 _ (by have h8 : lo ≤ (10 * (10 * 0 + c0 - 48) + c1 - 48) ∧ (10 * (10 * 0 + c0 - 48) + c1 - 48) ≤ hi := (by have h9 := of_decide_eq_true h77; rw [nI_leI (by omega) (by omega), nI_leI (by omega) (by omega)] at h9; exact h9); have h7 : ¬ zCh tx tn (p + 2) = some be := fun z => h85 (by rw [z]; rfl); unfold zNok zNe; rw [hnum]; simp only [decide_eq_false h7, Bool.and_false]; rfl)
                · refine P_iconst (pc := 88) (x := nI 1) dX12_number_88 (by decide) ?_
                  refine P_goto (pc := 89) (tgt := 93) dX12_number_89 (by decide) ?_
                  exact k93_62 _ (by have h8 : lo ≤ (10 * (10 * 0 + c0 - 48) + c1 - 48) ∧ (10 * (10 * 0 + c0 - 48) + c1 - 48) ≤ hi := (by have h9 := of_decide_eq_true h77; rw [nI_leI (by omega) (by omega), nI_leI (by omega) (by omega)] at h9; exact h9); have h7 : zCh tx tn (p + 2) = some be := (zo_chr (by omega) (fun c hc => by have := zCh_lt hX.2.2.2 hc; omega)).mp h85; unfold zNok zNe; rw [hnum, h62]; simp only [decide_eq_true h8, decide_eq_true h7]; rfl)
          · refine P_puti (pc := 93) 12 15 dX12_number_93 fl_X12_108 sh_109 fp_12_15 (by cases (b && zNok tx tn p lo hi be) <;> rfl) (by cases (b && zNok tx tn p lo hi be) <;> rfl) ?_
            refine P_aload_n (pc := 96) dX12_number_96 rfl ?_
            refine P_dup (pc := 97) dX12_number_97 rfl ?_
            refine P_geti (pc := 98) 12 14 (x := nI ((p + 2))) dX12_number_98 fl_X12_101 sh_109 fi_12_14 (rfl) ?_
            refine P_iconst (pc := 101) (x := nI 1) dX12_number_101 (by decide) ?_
            refine P_iaddN (pc := 102) dX12_number_102 ?_
            refine P_puti (pc := 103) 12 14 dX12_number_103 fl_X12_101 sh_109 fp_12_14 rfl rfl ?_
            refine P_iload (pc := 106) dX12_number_106 rfl ?_
            refine P_iret (pc := 108) dX12_number_108 ?_
            refine ⟨by rw [hnum], rfl, (((zFN.rf.f (Or.inl rfl)).f (Or.inl rfl)).f (Or.inr rfl)).f (Or.inl rfl), by rw [hnum]; rfl, rfl⟩
