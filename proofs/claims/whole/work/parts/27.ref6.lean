set_option maxRecDepth 20000 in
theorem c_copy {l : Launch} {D : va_G} {tw : Nat} {I : AI} {f : Nat → Nat} (hf : ∀ j, I 122 j = nI (f j)) {a b : Nat} (ha : a ≤ 352) (hb : b ≤ 352) (hab : a + 32 ≤ b ∨ b + 32 ≤ a) : ZP l D zm_X12_copy 0 (zent 4 [.ref 109, .int (nI a), .int (nI b)]) [] I (zF tw) (fun v J G => v = none ∧ G = zF tw ∧ zF1 I J (zCopy f a b)) := by
  have loop : ∀ (d : Nat) (k : Nat) (J : AI), 32 - k < d → k ≤ 32 → zF1 I J (fun j => if b ≤ j ∧ j < b + k then f (a + (j - b)) else f j) → ZP l D zm_X12_copy 2 [some (.ref 109), some (.int (nI a)), some (.int (nI b)), some (.int (nI k))] [] J (zF tw) (fun v J G => v = none ∧ G = zF tw ∧ zF1 I J (zCopy f a b)) := by
    intro d
    induction d with
    | zero =>
      intro k J hd
      exact absurd hd (by omega)
    | succ d ih =>
      intro k J hd hk hJ
      refine P_iload_n (pc := 2) dX12_copy_2 rfl ?_
      refine P_bipush (pc := 3) (x := nI 32) dX12_copy_3 (by decide) ?_
      refine P_icmp_geN (pc := 5) (tgt := 30) dX12_copy_5 (by decide) (by omega) (by omega) (fun h5 => ?_) (fun h5 => ?_)
      · refine P_ret (pc := 30) dX12_copy_30 ?_
        have hk2 : k = 32 := by omega
        subst hk2
        exact ⟨rfl, rfl, hJ⟩
      · refine P_aload_n (pc := 8) dX12_copy_8 rfl ?_
        refine P_getr (pc := 9) 12 17 dX12_copy_9 fl_X12_47 sh_109 fr_12_17 F_109_17 ?_
        refine P_iload_n (pc := 12) dX12_copy_12 rfl ?_
        refine P_iload_n (pc := 13) dX12_copy_13 rfl ?_
        refine P_iaddN (pc := 14) dX12_copy_14 ?_
        refine P_aload_n (pc := 15) dX12_copy_15 rfl ?_
        refine P_getr (pc := 16) 12 17 dX12_copy_16 fl_X12_47 sh_109 fr_12_17 F_109_17 ?_
        refine P_iload_n (pc := 19) dX12_copy_19 rfl ?_
        refine P_iload_n (pc := 20) dX12_copy_20 rfl ?_
        refine P_iaddN (pc := 21) dX12_copy_21 ?_
        refine P_iald (pc := 22) ((a + k)) (x := nI (f (a + k))) dX12_copy_22 sh_122 rfl (by omega) (by decide) ((hJ.2 _).trans (congrArg nI (if_neg (by omega)))) ?_
        refine P_iast (pc := 23) ((b + k)) dX12_copy_23 sh_122 rfl (by omega) (by decide) ?_
        refine P_iincN (pc := 24) (c := 1) dX12_copy_24 rfl (by decide) (by decide) rfl ?_
        refine P_goto (pc := 27) (tgt := 2) dX12_copy_27 (by decide) ?_
        refine ih (k + 1) _ (by omega) (by omega) ⟨fun x hx => by rw [zu_o _ _ hx]; exact hJ.1 x hx, fun j => ?_⟩
        by_cases e : j = b + k
        · subst e
          rw [zu_s]
          try dsimp only
          rw [if_pos (by omega)]
          congr 2
          omega
        · rw [zu_n _ _ e, hJ.2 j]
          congr 1
          try dsimp only
          by_cases e2 : b ≤ j ∧ j < b + k
          · rw [if_pos e2, if_pos (by omega)]
          · rw [if_neg e2, if_neg (by omega)]
  show ZP _ _ _ _ [some _, some _, some _, none] _ _ _ _
  refine P_iconst (pc := 0) (x := nI 0) dX12_copy_0 (by decide) ?_
  refine P_istore_n (pc := 1) dX12_copy_1 (by decide) rfl ?_
  exact loop 33 0 I (by omega) (by omega) ⟨fun _ _ => rfl, fun j => by (try dsimp only); rw [if_neg (by omega)]; exact hf j⟩
set_option maxRecDepth 20000 in
theorem c_putUp {l : Launch} {D : va_G} {tw : Nat} {I : AI} {f : Nat → Nat} (hf : ∀ j, I 122 j = nI (f j)) {b c t n : Nat} (hb : b ≤ 352) (hm : f b ≤ 8) : ZP l D zm_X12_putUp 0 (zent 6 [.ref 109, .int (nI b), .int (nI c), .int (nI t), .int (nI n)]) [] I (zF tw) (fun v J G => v = none ∧ G = zF tw ∧ zF1 I J (zPutUp f b c t n)) := by
  show ZP _ _ _ _ [some _, some _, some _, some _, some _, none] _ _ _ _
  refine P_iload_n (pc := 0) dX12_putUp_0 rfl ?_
  refine P_iconst (pc := 1) (x := nI 1) dX12_putUp_1 (by decide) ?_
  refine P_iaddN (pc := 2) dX12_putUp_2 ?_
  refine P_iconst (pc := 3) (x := nI 3) dX12_putUp_3 (by decide) ?_
  refine P_aload_n (pc := 4) dX12_putUp_4 rfl ?_
  refine P_getr (pc := 5) 12 17 dX12_putUp_5 fl_X12_47 sh_109 fr_12_17 F_109_17 ?_
  refine P_iload_n (pc := 8) dX12_putUp_8 rfl ?_
  refine P_iconst (pc := 9) (x := nI 0) dX12_putUp_9 (by decide) ?_
  refine P_iaddN (pc := 10) dX12_putUp_10 ?_
  refine P_iald (pc := 11) (b) (x := nI (f b)) dX12_putUp_11 sh_122 rfl (by omega) (by decide) (hf _) ?_
  refine P_imulN (pc := 12) dX12_putUp_12 ?_
  refine P_iaddN (pc := 13) dX12_putUp_13 ?_
  refine P_istore (pc := 14) dX12_putUp_14 (by decide) rfl ?_
  refine P_aload_n (pc := 16) dX12_putUp_16 rfl ?_
  refine P_getr (pc := 17) 12 17 dX12_putUp_17 fl_X12_47 sh_109 fr_12_17 F_109_17 ?_
  refine P_iload (pc := 20) dX12_putUp_20 rfl ?_
  refine P_iload_n (pc := 22) dX12_putUp_22 rfl ?_
  refine P_iast (pc := 23) (((b + 1) + (3 * (f b)))) dX12_putUp_23 sh_122 rfl (by omega) (by decide) ?_
  refine P_aload_n (pc := 24) dX12_putUp_24 rfl ?_
  refine P_getr (pc := 25) 12 17 dX12_putUp_25 fl_X12_47 sh_109 fr_12_17 F_109_17 ?_
  refine P_iload (pc := 28) dX12_putUp_28 rfl ?_
  refine P_iconst (pc := 30) (x := nI 1) dX12_putUp_30 (by decide) ?_
  refine P_iaddN (pc := 31) dX12_putUp_31 ?_
  refine P_iload_n (pc := 32) dX12_putUp_32 rfl ?_
  refine P_iast (pc := 33) ((((b + 1) + (3 * (f b))) + 1)) dX12_putUp_33 sh_122 rfl (by omega) (by decide) ?_
  refine P_aload_n (pc := 34) dX12_putUp_34 rfl ?_
  refine P_getr (pc := 35) 12 17 dX12_putUp_35 fl_X12_47 sh_109 fr_12_17 F_109_17 ?_
  refine P_iload (pc := 38) dX12_putUp_38 rfl ?_
  refine P_iconst (pc := 40) (x := nI 2) dX12_putUp_40 (by decide) ?_
  refine P_iaddN (pc := 41) dX12_putUp_41 ?_
  refine P_iload (pc := 42) dX12_putUp_42 rfl ?_
  refine P_iast (pc := 44) ((((b + 1) + (3 * (f b))) + 2)) dX12_putUp_44 sh_122 rfl (by omega) (by decide) ?_
  refine P_aload_n (pc := 45) dX12_putUp_45 rfl ?_
  refine P_getr (pc := 46) 12 17 dX12_putUp_46 fl_X12_47 sh_109 fr_12_17 F_109_17 ?_
  refine P_iload_n (pc := 49) dX12_putUp_49 rfl ?_
  refine P_iconst (pc := 50) (x := nI 0) dX12_putUp_50 (by decide) ?_
  refine P_iaddN (pc := 51) dX12_putUp_51 ?_
  refine P_dup2 (pc := 52) dX12_putUp_52 rfl rfl ?_
  refine P_iald (pc := 53) (b) (x := nI (f b)) dX12_putUp_53 sh_122 rfl (by omega) (by decide) (by rw [zu_n _ _ (by omega), zu_n _ _ (by omega), zu_n _ _ (by omega)]; exact hf _) ?_
  refine P_iconst (pc := 54) (x := nI 1) dX12_putUp_54 (by decide) ?_
  refine P_iaddN (pc := 55) dX12_putUp_55 ?_
  refine P_iast (pc := 56) (b) dX12_putUp_56 sh_122 rfl (by omega) (by decide) ?_
  refine P_ret (pc := 57) dX12_putUp_57 ?_
  refine ⟨rfl, rfl, fun x hx => by rw [zu_o _ _ hx, zu_o _ _ hx, zu_o _ _ hx, zu_o _ _ hx], fun j => ?_⟩
  unfold zPutUp
  by_cases e4 : j = b
  · subst e4; rw [zu_s, va_up_s]
  · rw [zu_n _ _ e4, va_up_n _ _ e4]
    by_cases e3 : j = b + 1 + 3 * f b + 2
    · rw [e3, zu_s, va_up_s]
    · rw [zu_n _ _ e3, va_up_n _ _ e3]
      by_cases e2 : j = b + 1 + 3 * f b + 1
      · rw [e2, zu_s, va_up_s]
      · rw [zu_n _ _ e2, va_up_n _ _ e2]
        by_cases e1 : j = b + 1 + 3 * f b
        · rw [e1, zu_s, va_up_s]
        · rw [zu_n _ _ e1, va_up_n _ _ e1]; exact hf j
set_option maxRecDepth 20000 in
theorem c_takeDown {l : Launch} {D : va_G} {tw : Nat} {I : AI} {f : Nat → Nat} (hf : ∀ j, I 122 j = nI (f j)) {b k : Nat} (hb : b ≤ 352) (hk : k < f b) (hm : f b ≤ 9) : ZP l D zm_X12_takeDown 0 (zent 4 [.ref 109, .int (nI b), .int (nI k)]) [] I (zF tw) (fun v J G => v = none ∧ G = zF tw ∧ zF1 I J (zTakeDown f b k)) := by
  have loop : ∀ (d : Nat) (q : Nat) (J : AI), 3 * f b - q < d → 3 * k ≤ q ∧ q + 3 ≤ 3 * f b → zF1 I J (fun j => if b + 1 + 3 * k ≤ j ∧ j < b + 1 + q then f (j + 3) else f j) → ZP l D zm_X12_takeDown 4 [some (.ref 109), some (.int (nI b)), some (.int (nI k)), some (.int (nI q))] [] J (zF tw) (fun v J G => v = none ∧ G = zF tw ∧ zF1 I J (zTakeDown f b k)) := by
    intro d
    induction d with
    | zero =>
      intro q J hd
      exact absurd hd (by omega)
    | succ d ih =>
      intro q J hd hq hJ
      refine P_iload_n (pc := 4) dX12_takeDown_4 rfl ?_
      refine P_iconst (pc := 5) (x := nI 3) dX12_takeDown_5 (by decide) ?_
      refine P_aload_n (pc := 6) dX12_takeDown_6 rfl ?_
      refine P_getr (pc := 7) 12 17 dX12_takeDown_7 fl_X12_47 sh_109 fr_12_17 F_109_17 ?_
      refine P_iload_n (pc := 10) dX12_takeDown_10 rfl ?_
      refine P_iconst (pc := 11) (x := nI 0) dX12_takeDown_11 (by decide) ?_
      refine P_iaddN (pc := 12) dX12_takeDown_12 ?_
      refine P_iald (pc := 13) (b) (x := nI (f b)) dX12_takeDown_13 sh_122 rfl (by omega) (by decide) ((hJ.2 _).trans (congrArg nI (if_neg (by omega)))) ?_
      refine P_imulN (pc := 14) dX12_takeDown_14 ?_
      refine P_iconst (pc := 15) (x := nI 3) dX12_takeDown_15 (by decide) ?_
      refine P_isubN (pc := 16) dX12_takeDown_16 (by omega) ?_
      refine P_icmp_geN (pc := 17) (tgt := 48) dX12_takeDown_17 (by decide) (by omega) (by omega) (fun h17 => ?_) (fun h17 => ?_)
      · refine P_aload_n (pc := 48) dX12_takeDown_48 rfl ?_
        refine P_getr (pc := 49) 12 17 dX12_takeDown_49 fl_X12_47 sh_109 fr_12_17 F_109_17 ?_
        refine P_iload_n (pc := 52) dX12_takeDown_52 rfl ?_
        refine P_iconst (pc := 53) (x := nI 0) dX12_takeDown_53 (by decide) ?_
        refine P_iaddN (pc := 54) dX12_takeDown_54 ?_
        refine P_dup2 (pc := 55) dX12_takeDown_55 rfl rfl ?_
        refine P_iald (pc := 56) (b) (x := nI (f b)) dX12_takeDown_56 sh_122 rfl (by omega) (by decide) ((hJ.2 _).trans (congrArg nI (if_neg (by omega)))) ?_
        refine P_iconst (pc := 57) (x := nI 1) dX12_takeDown_57 (by decide) ?_
        refine P_isubN (pc := 58) dX12_takeDown_58 (by omega) ?_
        refine P_iast (pc := 59) (b) dX12_takeDown_59 sh_122 rfl (by omega) (by decide) ?_
        refine P_ret (pc := 60) dX12_takeDown_60 ?_
        have hq2 : q = 3 * f b - 3 := by omega
        subst hq2
        refine ⟨rfl, rfl, fun x hx => by rw [zu_o _ _ hx]; exact hJ.1 x hx, fun j => ?_⟩
        unfold zTakeDown
        by_cases e : j = b
        · subst e; rw [zu_s, if_pos rfl]
        · rw [zu_n _ _ e, if_neg e, hJ.2 j]
          congr 1
          try dsimp only
          by_cases e2 : b + 1 + 3 * k ≤ j ∧ j < b + 1 + 3 * f b - 3
          · rw [if_pos e2, if_pos (by omega)]
          · rw [if_neg e2, if_neg (by omega)]
      · refine P_aload_n (pc := 20) dX12_takeDown_20 rfl ?_
        refine P_getr (pc := 21) 12 17 dX12_takeDown_21 fl_X12_47 sh_109 fr_12_17 F_109_17 ?_
        refine P_iload_n (pc := 24) dX12_takeDown_24 rfl ?_
        refine P_iconst (pc := 25) (x := nI 1) dX12_takeDown_25 (by decide) ?_
        refine P_iaddN (pc := 26) dX12_takeDown_26 ?_
        refine P_iload_n (pc := 27) dX12_takeDown_27 rfl ?_
        refine P_iaddN (pc := 28) dX12_takeDown_28 ?_
        refine P_aload_n (pc := 29) dX12_takeDown_29 rfl ?_
        refine P_getr (pc := 30) 12 17 dX12_takeDown_30 fl_X12_47 sh_109 fr_12_17 F_109_17 ?_
        refine P_iload_n (pc := 33) dX12_takeDown_33 rfl ?_
        refine P_iconst (pc := 34) (x := nI 1) dX12_takeDown_34 (by decide) ?_
        refine P_iaddN (pc := 35) dX12_takeDown_35 ?_
        refine P_iconst (pc := 36) (x := nI 3) dX12_takeDown_36 (by decide) ?_
        refine P_iaddN (pc := 37) dX12_takeDown_37 ?_
        refine P_iload_n (pc := 38) dX12_takeDown_38 rfl ?_
        refine P_iaddN (pc := 39) dX12_takeDown_39 ?_
        refine P_iald (pc := 40) ((((b + 1) + 3) + q)) (x := nI (f (((b + 1) + 3) + q))) dX12_takeDown_40 sh_122 rfl (by omega) (by decide) ((hJ.2 _).trans (congrArg nI (if_neg (by omega)))) ?_
        refine P_iast (pc := 41) (((b + 1) + q)) dX12_takeDown_41 sh_122 rfl (by omega) (by decide) ?_
        refine P_iincN (pc := 42) (c := 1) dX12_takeDown_42 rfl (by decide) (by decide) rfl ?_
        refine P_goto (pc := 45) (tgt := 4) dX12_takeDown_45 (by decide) ?_
        refine ih (q + 1) _ (by omega) (by omega) ⟨fun x hx => by rw [zu_o _ _ hx]; exact hJ.1 x hx, fun j => ?_⟩
        by_cases e : j = b + 1 + q
        · subst e
          rw [zu_s]
          try dsimp only
          rw [if_pos (by omega)]
          congr 2
          omega
        · rw [zu_n _ _ e, hJ.2 j]
          congr 1
          try dsimp only
          by_cases e2 : b + 1 + 3 * k ≤ j ∧ j < b + 1 + q
          · rw [if_pos e2, if_pos (by omega)]
          · rw [if_neg e2, if_neg (by omega)]
  show ZP _ _ _ _ [some _, some _, some _, none] _ _ _ _
  refine P_iconst (pc := 0) (x := nI 3) dX12_takeDown_0 (by decide) ?_
  refine P_iload_n (pc := 1) dX12_takeDown_1 rfl ?_
  refine P_imulN (pc := 2) dX12_takeDown_2 ?_
  refine P_istore_n (pc := 3) dX12_takeDown_3 (by decide) rfl ?_
  exact loop (3 * f b + 1) (3 * k) I (by omega) (by omega) ⟨fun _ _ => rfl, fun j => by (try dsimp only); rw [if_neg (by omega)]; exact hf j⟩
set_option maxRecDepth 20000 in
theorem c_know {l : Launch} {D : va_G} {tw : Nat} {I : AI} {f : Nat → Nat} (hf : ∀ j, I 122 j = nI (f j)) {e : Nat} (he : I 109 18 = nI e) (he8 : e ≤ 8) : ZP l D zm_X12_know 0 (zent 2 [.ref 109]) [] I (zF tw) (fun v J G => v = none ∧ G = zF tw ∧ zF2 I J (zKnow f e) (zKd e)) := by
  show ZP _ _ _ _ [some _, none] _ _ _ _
  refine P_aload_n (pc := 0) dX12_know_0 rfl ?_
  refine P_geti (pc := 1) 12 18 (x := nI (e)) dX12_know_1 fl_X12_129 sh_109 fi_12_18 (he) ?_
  refine P_bipush (pc := 4) (x := nI 8) dX12_know_4 (by decide) ?_
  refine P_icmp_neN (pc := 6) (tgt := 52) dX12_know_6 (by decide) (by omega) (by omega) (fun h6 => ?_) (fun h6 => ?_)
  · refine P_aload_n (pc := 52) dX12_know_52 rfl ?_
    refine P_iconst (pc := 53) (x := nI 0) dX12_know_53 (by decide) ?_
    refine P_bipush (pc := 54) (x := nI 32) dX12_know_54 (by decide) ?_
    refine P_bipush (pc := 56) (x := nI 32) dX12_know_56 (by decide) ?_
    refine P_aload_n (pc := 58) dX12_know_58 rfl ?_
    refine P_geti (pc := 59) 12 18 (x := nI (e)) dX12_know_59 fl_X12_129 sh_109 fi_12_18 (he) ?_
    refine P_imulN (pc := 62) dX12_know_62 ?_
    refine P_iaddN (pc := 63) dX12_know_63 ?_
    obtain ⟨_, K, _, kc, rfl, rfl, hC⟩ := c_copy (l := l) (D := D) (tw := tw) (a := 0) (b := (32 + 32 * e)) hf (by omega) (by omega) (by omega)
    refine P_callV (pc := 64) (S := []) (As := [_, _]) kc dX12_know_64 ok_X12_copy ml_X12_203 iv_X12_copy ⟨by decide, by decide⟩ zret_v rfl ⟨rfl, by decide⟩ sh_109 ⟨by decide, rfl⟩ (Nat.le_of_ble_eq_true rfl) ?_
    refine P_aload_n (pc := 67) dX12_know_67 rfl ?_
    refine P_dup (pc := 68) dX12_know_68 rfl ?_
    refine P_geti (pc := 69) 12 18 (x := nI (e)) dX12_know_69 fl_X12_129 sh_109 fi_12_18 ((congrFun (hC.1 109 (by decide)) 18).trans he) ?_
    refine P_iconst (pc := 72) (x := nI 1) dX12_know_72 (by decide) ?_
    refine P_iaddN (pc := 73) dX12_know_73 ?_
    refine P_puti (pc := 74) 12 18 dX12_know_74 fl_X12_129 sh_109 fp_12_18 rfl rfl ?_
    refine P_ret (pc := 77) dX12_know_77 ?_
    refine ⟨rfl, rfl, fun x h1 h2 => ?_, fun q hq => ?_, ?_, fun j => ?_⟩
    · rw [zu_o _ _ h2]; exact hC.1 x h1
    · rw [zu_n _ _ hq]; exact congrFun (hC.1 109 (by decide)) q
    · rw [zu_s]; unfold zKd; rw [if_neg h6]
    · show K 122 j = _
      rw [hC.2 j]; unfold zKnow; rw [if_neg h6]
  · refine P_iconst (pc := 9) (x := nI 0) dX12_know_9 (by decide) ?_
    refine P_istore_n (pc := 10) dX12_know_10 (by decide) rfl ?_
    have loop : ∀ (d k : Nat) (J : AI), 224 - k < d → k ≤ 224 → zF1 I J (fun j => if 32 ≤ j ∧ j < 32 + k then f (j + 32) else f j) → ZP l D zm_X12_know 11 [some (.ref 109), some (.int (nI k))] [] J (zF tw) (fun v J G => v = none ∧ G = zF tw ∧ zF2 I J (zKnow f e) (zKd e)) := by
      intro d
      induction d with
      | zero =>
        intro k J hd
        exact absurd hd (by omega)
      | succ d ih =>
        intro k J hd hk hJ
        refine P_iload_n (pc := 11) dX12_know_11 rfl ?_
        refine P_sipush (pc := 12) (x := nI 224) dX12_know_12 (by decide) ?_
        refine P_icmp_geN (pc := 15) (tgt := 42) dX12_know_15 (by decide) (by omega) (by omega) (fun h15 => ?_) (fun h15 => ?_)
        · have hk2 : k = 224 := by omega
          subst hk2
          refine P_aload_n (pc := 42) dX12_know_42 rfl ?_
          refine P_dup (pc := 43) dX12_know_43 rfl ?_
          refine P_geti (pc := 44) 12 18 (x := nI (8)) dX12_know_44 fl_X12_129 sh_109 fi_12_18 ((congrFun (hJ.1 109 (by decide)) 18).trans (he.trans (congrArg nI (by omega)))) ?_
          refine P_iconst (pc := 47) (x := nI 1) dX12_know_47 (by decide) ?_
          refine P_isubN (pc := 48) dX12_know_48 (by omega) ?_
          refine P_puti (pc := 49) 12 18 dX12_know_49 fl_X12_129 sh_109 fp_12_18 rfl rfl ?_
          refine P_aload_n (pc := 52) dX12_know_52 rfl ?_
          refine P_iconst (pc := 53) (x := nI 0) dX12_know_53 (by decide) ?_
          refine P_bipush (pc := 54) (x := nI 32) dX12_know_54 (by decide) ?_
          refine P_bipush (pc := 56) (x := nI 32) dX12_know_56 (by decide) ?_
          refine P_aload_n (pc := 58) dX12_know_58 rfl ?_
          refine P_geti (pc := 59) 12 18 (x := nI (7)) dX12_know_59 fl_X12_129 sh_109 fi_12_18 (rfl) ?_
          refine P_imulN (pc := 62) dX12_know_62 ?_
          refine P_iaddN (pc := 63) dX12_know_63 ?_
          obtain ⟨_, K, _, kc, rfl, rfl, hC⟩ := c_copy (l := l) (D := D) (tw := tw) (a := 0) (b := 256) (f := zShift f) (I := zu J 109 18 (nI 7)) (fun j => (hJ.2 j).trans (congrArg nI (by unfold zShift; rfl))) (by omega) (by omega) (by omega)
          refine P_callV (pc := 64) (S := []) (As := [_, _]) kc dX12_know_64 ok_X12_copy ml_X12_203 iv_X12_copy ⟨by decide, by decide⟩ zret_v rfl ⟨rfl, by decide⟩ sh_109 ⟨by decide, rfl⟩ (Nat.le_of_ble_eq_true rfl) ?_
          refine P_aload_n (pc := 67) dX12_know_67 rfl ?_
          refine P_dup (pc := 68) dX12_know_68 rfl ?_
          refine P_geti (pc := 69) 12 18 (x := nI (7)) dX12_know_69 fl_X12_129 sh_109 fi_12_18 ((congrFun (hC.1 109 (by decide)) 18)) ?_
          refine P_iconst (pc := 72) (x := nI 1) dX12_know_72 (by decide) ?_
          refine P_iaddN (pc := 73) dX12_know_73 ?_
          refine P_puti (pc := 74) 12 18 dX12_know_74 fl_X12_129 sh_109 fp_12_18 rfl rfl ?_
          refine P_ret (pc := 77) dX12_know_77 ?_
          have e8 : e = 8 := by omega
          subst e8
          refine ⟨rfl, rfl, fun x h1 h2 => ?_, fun q hq => ?_, rfl, fun j => ?_⟩
          · rw [zu_o _ _ h2, hC.1 x h1, zu_o _ _ h2]; exact hJ.1 x h1
          · rw [zu_n _ _ hq, congrFun (hC.1 109 (by decide)) q, zu_n _ _ hq]; exact congrFun (hJ.1 109 (by decide)) q
          · show K 122 j = _
            rw [hC.2 j]
            rfl
        · refine P_aload_n (pc := 18) dX12_know_18 rfl ?_
          refine P_getr (pc := 19) 12 17 dX12_know_19 fl_X12_47 sh_109 fr_12_17 F_109_17 ?_
          refine P_bipush (pc := 22) (x := nI 32) dX12_know_22 (by decide) ?_
          refine P_iload_n (pc := 24) dX12_know_24 rfl ?_
          refine P_iaddN (pc := 25) dX12_know_25 ?_
          refine P_aload_n (pc := 26) dX12_know_26 rfl ?_
          refine P_getr (pc := 27) 12 17 dX12_know_27 fl_X12_47 sh_109 fr_12_17 F_109_17 ?_
          refine P_bipush (pc := 30) (x := nI 64) dX12_know_30 (by decide) ?_
          refine P_iload_n (pc := 32) dX12_know_32 rfl ?_
          refine P_iaddN (pc := 33) dX12_know_33 ?_
          refine P_iald (pc := 34) ((64 + k)) (x := nI (f (64 + k))) dX12_know_34 sh_122 rfl (by omega) (by decide) ((hJ.2 _).trans (congrArg nI (if_neg (by omega)))) ?_
          refine P_iast (pc := 35) ((32 + k)) dX12_know_35 sh_122 rfl (by omega) (by decide) ?_
          refine P_iincN (pc := 36) (c := 1) dX12_know_36 rfl (by decide) (by decide) rfl ?_
          refine P_goto (pc := 39) (tgt := 11) dX12_know_39 (by decide) ?_
          refine ih (k + 1) _ (by omega) (by omega) ⟨fun x hx => by rw [zu_o _ _ hx]; exact hJ.1 x hx, fun j => ?_⟩
          by_cases e : j = 32 + k
          · subst e
            rw [zu_s]
            try dsimp only
            rw [if_pos (by omega)]
            congr 2
            omega
          · rw [zu_n _ _ e, hJ.2 j]
            congr 1
            try dsimp only
            by_cases e2 : 32 ≤ j ∧ j < 32 + k
            · rw [if_pos e2, if_pos (by omega)]
            · rw [if_neg e2, if_neg (by omega)]
    exact loop 225 0 I (by omega) (by omega) ⟨fun _ _ => rfl, fun j => by (try dsimp only); rw [if_neg (by omega)]; exact hf j⟩
