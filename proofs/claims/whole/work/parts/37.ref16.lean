set_option maxRecDepth 20000 in
theorem c_firstRates {l : Launch} {D : va_G} {tw : Nat} {I : AI} {r d q : Nat} : ZP l D zm_X12_firstRates 0 (zent 4 [.ref 109, .int (nI r), .int (nI d), .int (nI q)]) [] I (zF tw) (fun v J G => v = none ∧ G = zF tw ∧ J = zu (zu (zu I 120 3 (nI r)) 120 4 (nI d)) 120 5 (nI q)) := by
  show ZP _ _ _ _ [some _, some _, some _, some _] _ _ _ _
  refine P_aload_n (pc := 0) dX12_firstRates_0 rfl ?_
  refine P_getr (pc := 1) 12 11 dX12_firstRates_1 fl_X12_41 sh_109 fr_12_11 F_109_11 ?_
  refine P_iconst (pc := 4) (x := nI 3) dX12_firstRates_4 (by decide) ?_
  refine P_iload_n (pc := 5) dX12_firstRates_5 rfl ?_
  refine P_iast (pc := 6) (3) dX12_firstRates_6 sh_120 rfl (by omega) (by decide) ?_
  refine P_aload_n (pc := 7) dX12_firstRates_7 rfl ?_
  refine P_getr (pc := 8) 12 11 dX12_firstRates_8 fl_X12_41 sh_109 fr_12_11 F_109_11 ?_
  refine P_iconst (pc := 11) (x := nI 4) dX12_firstRates_11 (by decide) ?_
  refine P_iload_n (pc := 12) dX12_firstRates_12 rfl ?_
  refine P_iast (pc := 13) (4) dX12_firstRates_13 sh_120 rfl (by omega) (by decide) ?_
  refine P_aload_n (pc := 14) dX12_firstRates_14 rfl ?_
  refine P_getr (pc := 15) 12 11 dX12_firstRates_15 fl_X12_41 sh_109 fr_12_11 F_109_11 ?_
  refine P_iconst (pc := 18) (x := nI 5) dX12_firstRates_18 (by decide) ?_
  refine P_iload_n (pc := 19) dX12_firstRates_19 rfl ?_
  refine P_iast (pc := 20) (5) dX12_firstRates_20 sh_120 rfl (by omega) (by decide) ?_
  exact P_ret (pc := 21) dX12_firstRates_21 (⟨rfl, rfl, rfl⟩)
set_option maxRecDepth 20000 in
theorem c_firstStreet {l : Launch} {D : va_G} {tw : Nat} {I : AI} {m x y z : Nat} (hm : I 112 1 = nI m) (hm2 : m < 12) : ZP l D zm_X12_firstStreet 0 (zent 5 [.ref 109, .int (nI x), .int (nI y), .int (nI z)]) [] I (zF tw) (fun v J G => v = none ∧ G = zF tw ∧ J = zu (zu (zu (zu I 113 (12 + m) (nI x)) 114 (12 + m) (nI y)) 115 (12 + m) (nI z)) 112 1 (nI (m + 1))) := by
  show ZP _ _ _ _ [some _, some _, some _, some _, none] _ _ _ _
  refine P_bipush (pc := 0) (x := nI 12) dX12_firstStreet_0 (by decide) ?_
  refine P_aload_n (pc := 2) dX12_firstStreet_2 rfl ?_
  refine P_getr (pc := 3) 12 3 dX12_firstStreet_3 fl_X12_17 sh_109 fr_12_3 F_109_3 ?_
  refine P_iconst (pc := 6) (x := nI 1) dX12_firstStreet_6 (by decide) ?_
  refine P_iald (pc := 7) (1) (x := nI (m)) dX12_firstStreet_7 sh_112 rfl (by omega) (by decide) (hm) ?_
  refine P_iaddN (pc := 8) dX12_firstStreet_8 ?_
  refine P_istore (pc := 9) dX12_firstStreet_9 (by decide) rfl ?_
  refine P_aload_n (pc := 11) dX12_firstStreet_11 rfl ?_
  refine P_getr (pc := 12) 12 4 dX12_firstStreet_12 fl_X12_20 sh_109 fr_12_4 F_109_4 ?_
  refine P_iload (pc := 15) dX12_firstStreet_15 rfl ?_
  refine P_iload_n (pc := 17) dX12_firstStreet_17 rfl ?_
  refine P_iast (pc := 18) ((12 + (m))) dX12_firstStreet_18 sh_113 rfl (by omega) (by decide) ?_
  refine P_aload_n (pc := 19) dX12_firstStreet_19 rfl ?_
  refine P_getr (pc := 20) 12 5 dX12_firstStreet_20 fl_X12_23 sh_109 fr_12_5 F_109_5 ?_
  refine P_iload (pc := 23) dX12_firstStreet_23 rfl ?_
  refine P_iload_n (pc := 25) dX12_firstStreet_25 rfl ?_
  refine P_iast (pc := 26) ((12 + (m))) dX12_firstStreet_26 sh_114 rfl (by omega) (by decide) ?_
  refine P_aload_n (pc := 27) dX12_firstStreet_27 rfl ?_
  refine P_getr (pc := 28) 12 6 dX12_firstStreet_28 fl_X12_26 sh_109 fr_12_6 F_109_6 ?_
  refine P_iload (pc := 31) dX12_firstStreet_31 rfl ?_
  refine P_iload_n (pc := 33) dX12_firstStreet_33 rfl ?_
  refine P_iast (pc := 34) ((12 + (m))) dX12_firstStreet_34 sh_115 rfl (by omega) (by decide) ?_
  refine P_aload_n (pc := 35) dX12_firstStreet_35 rfl ?_
  refine P_getr (pc := 36) 12 3 dX12_firstStreet_36 fl_X12_17 sh_109 fr_12_3 F_109_3 ?_
  refine P_iconst (pc := 39) (x := nI 1) dX12_firstStreet_39 (by decide) ?_
  refine P_dup2 (pc := 40) dX12_firstStreet_40 rfl rfl ?_
  refine P_iald (pc := 41) (1) (x := nI (m)) dX12_firstStreet_41 sh_112 rfl (by omega) (by decide) (hm) ?_
  refine P_iconst (pc := 42) (x := nI 1) dX12_firstStreet_42 (by decide) ?_
  refine P_iaddN (pc := 43) dX12_firstStreet_43 ?_
  refine P_iast (pc := 44) (1) dX12_firstStreet_44 sh_112 rfl (by omega) (by decide) ?_
  exact P_ret (pc := 45) dX12_firstStreet_45 (⟨rfl, rfl, rfl⟩)
set_option maxRecDepth 20000 in
theorem c_firstWalker {l : Launch} {D : va_G} {tw : Nat} {I : AI} {m x y z : Nat} (hm : I 116 1 = nI m) (hm2 : m < 4) : ZP l D zm_X12_firstWalker 0 (zent 5 [.ref 109, .int (nI x), .int (nI y), .int (nI z)]) [] I (zF tw) (fun v J G => v = none ∧ G = zF tw ∧ J = zu (zu (zu (zu I 117 (4 + m) (nI x)) 118 (4 + m) (nI y)) 119 (4 + m) (nI z)) 116 1 (nI (m + 1))) := by
  show ZP _ _ _ _ [some _, some _, some _, some _, none] _ _ _ _
  refine P_iconst (pc := 0) (x := nI 4) dX12_firstWalker_0 (by decide) ?_
  refine P_aload_n (pc := 1) dX12_firstWalker_1 rfl ?_
  refine P_getr (pc := 2) 12 7 dX12_firstWalker_2 fl_X12_29 sh_109 fr_12_7 F_109_7 ?_
  refine P_iconst (pc := 5) (x := nI 1) dX12_firstWalker_5 (by decide) ?_
  refine P_iald (pc := 6) (1) (x := nI (m)) dX12_firstWalker_6 sh_116 rfl (by omega) (by decide) (hm) ?_
  refine P_iaddN (pc := 7) dX12_firstWalker_7 ?_
  refine P_istore (pc := 8) dX12_firstWalker_8 (by decide) rfl ?_
  refine P_aload_n (pc := 10) dX12_firstWalker_10 rfl ?_
  refine P_getr (pc := 11) 12 8 dX12_firstWalker_11 fl_X12_32 sh_109 fr_12_8 F_109_8 ?_
  refine P_iload (pc := 14) dX12_firstWalker_14 rfl ?_
  refine P_iload_n (pc := 16) dX12_firstWalker_16 rfl ?_
  refine P_iast (pc := 17) ((4 + (m))) dX12_firstWalker_17 sh_117 rfl (by omega) (by decide) ?_
  refine P_aload_n (pc := 18) dX12_firstWalker_18 rfl ?_
  refine P_getr (pc := 19) 12 9 dX12_firstWalker_19 fl_X12_35 sh_109 fr_12_9 F_109_9 ?_
  refine P_iload (pc := 22) dX12_firstWalker_22 rfl ?_
  refine P_iload_n (pc := 24) dX12_firstWalker_24 rfl ?_
  refine P_iast (pc := 25) ((4 + (m))) dX12_firstWalker_25 sh_118 rfl (by omega) (by decide) ?_
  refine P_aload_n (pc := 26) dX12_firstWalker_26 rfl ?_
  refine P_getr (pc := 27) 12 10 dX12_firstWalker_27 fl_X12_38 sh_109 fr_12_10 F_109_10 ?_
  refine P_iload (pc := 30) dX12_firstWalker_30 rfl ?_
  refine P_iload_n (pc := 32) dX12_firstWalker_32 rfl ?_
  refine P_iast (pc := 33) ((4 + (m))) dX12_firstWalker_33 sh_119 rfl (by omega) (by decide) ?_
  refine P_aload_n (pc := 34) dX12_firstWalker_34 rfl ?_
  refine P_getr (pc := 35) 12 7 dX12_firstWalker_35 fl_X12_29 sh_109 fr_12_7 F_109_7 ?_
  refine P_iconst (pc := 38) (x := nI 1) dX12_firstWalker_38 (by decide) ?_
  refine P_dup2 (pc := 39) dX12_firstWalker_39 rfl rfl ?_
  refine P_iald (pc := 40) (1) (x := nI (m)) dX12_firstWalker_40 sh_116 rfl (by omega) (by decide) (hm) ?_
  refine P_iconst (pc := 41) (x := nI 1) dX12_firstWalker_41 (by decide) ?_
  refine P_iaddN (pc := 42) dX12_firstWalker_42 ?_
  refine P_iast (pc := 43) (1) dX12_firstWalker_43 sh_116 rfl (by omega) (by decide) ?_
  exact P_ret (pc := 44) dX12_firstWalker_44 (⟨rfl, rfl, rfl⟩)
set_option maxRecDepth 20000 in
theorem c_firstSign {l : Launch} {D : va_G} {tw : Nat} {I : AI} {m x y z : Nat} (hm : I 109 13 = nI m) (hm2 : m < 8) : ZP l D zm_X12_firstSign 0 (zent 5 [.ref 109, .int (nI x), .int (nI y), .int (nI z)]) [] I (zF tw) (fun v J G => v = none ∧ G = zF tw ∧ J = zu (zu (zu (zu I 121 (3 * m) (nI x)) 121 (3 * m + 1) (nI y)) 121 (3 * m + 2) (nI z)) 109 13 (nI (m + 1))) := by
  show ZP _ _ _ _ [some _, some _, some _, some _, none] _ _ _ _
  refine P_iconst (pc := 0) (x := nI 3) dX12_firstSign_0 (by decide) ?_
  refine P_aload_n (pc := 1) dX12_firstSign_1 rfl ?_
  refine P_geti (pc := 2) 12 13 (x := nI (m)) dX12_firstSign_2 fl_X12_90 sh_109 fi_12_13 (hm) ?_
  refine P_imulN (pc := 5) dX12_firstSign_5 ?_
  refine P_istore (pc := 6) dX12_firstSign_6 (by decide) rfl ?_
  refine P_aload_n (pc := 8) dX12_firstSign_8 rfl ?_
  refine P_getr (pc := 9) 12 12 dX12_firstSign_9 fl_X12_44 sh_109 fr_12_12 F_109_12 ?_
  refine P_iload (pc := 12) dX12_firstSign_12 rfl ?_
  refine P_iload_n (pc := 14) dX12_firstSign_14 rfl ?_
  refine P_iast (pc := 15) ((3 * (m))) dX12_firstSign_15 sh_121 rfl (by omega) (by decide) ?_
  refine P_aload_n (pc := 16) dX12_firstSign_16 rfl ?_
  refine P_getr (pc := 17) 12 12 dX12_firstSign_17 fl_X12_44 sh_109 fr_12_12 F_109_12 ?_
  refine P_iload (pc := 20) dX12_firstSign_20 rfl ?_
  refine P_iconst (pc := 22) (x := nI 1) dX12_firstSign_22 (by decide) ?_
  refine P_iaddN (pc := 23) dX12_firstSign_23 ?_
  refine P_iload_n (pc := 24) dX12_firstSign_24 rfl ?_
  refine P_iast (pc := 25) (((3 * (m)) + 1)) dX12_firstSign_25 sh_121 rfl (by omega) (by decide) ?_
  refine P_aload_n (pc := 26) dX12_firstSign_26 rfl ?_
  refine P_getr (pc := 27) 12 12 dX12_firstSign_27 fl_X12_44 sh_109 fr_12_12 F_109_12 ?_
  refine P_iload (pc := 30) dX12_firstSign_30 rfl ?_
  refine P_iconst (pc := 32) (x := nI 2) dX12_firstSign_32 (by decide) ?_
  refine P_iaddN (pc := 33) dX12_firstSign_33 ?_
  refine P_iload_n (pc := 34) dX12_firstSign_34 rfl ?_
  refine P_iast (pc := 35) (((3 * (m)) + 2)) dX12_firstSign_35 sh_121 rfl (by omega) (by decide) ?_
  refine P_aload_n (pc := 36) dX12_firstSign_36 rfl ?_
  refine P_dup (pc := 37) dX12_firstSign_37 rfl ?_
  refine P_geti (pc := 38) 12 13 (x := nI (m)) dX12_firstSign_38 fl_X12_90 sh_109 fi_12_13 (hm) ?_
  refine P_iconst (pc := 41) (x := nI 1) dX12_firstSign_41 (by decide) ?_
  refine P_iaddN (pc := 42) dX12_firstSign_42 ?_
  refine P_puti (pc := 43) 12 13 dX12_firstSign_43 fl_X12_90 sh_109 fp_12_13 rfl rfl ?_
  exact P_ret (pc := 46) dX12_firstSign_46 (⟨rfl, rfl, rfl⟩)
set_option maxRecDepth 20000 in
theorem c_corner {l : Launch} {D : va_G} {tw : Nat} {I : AI} {s : Nat → Nat → Nat} {p : Nat} {b f : Bool} {be : Nat} (hR : RefR s I p b f) (ht : s 109 1 ≤ 200) (hx : ∀ k, k < s 109 1 → s 110 k ≤ 126) (hp9 : p ≤ 9000) (hn1 : 1 ≤ s 111 1) (hn8 : s 111 1 ≤ 8) (hbe : be ≤ 1000) : ZP l D zm_X12_corner 0 (zent 2 [.ref 109, .int (nI be)]) [] I (zF tw) (fun v J G => v = some (nI (zv1 s p)) ∧ G = zF tw ∧ zFN I J ∧ RefR s J (zn1 s p) (b && zk1 s p 0 (s 111 1 - 1) be) f) := by
  show ZP _ _ _ _ [some _, some _] _ _ _ _
  refine P_aload_n (pc := 0) dX12_corner_0 rfl ?_
  refine P_iconst (pc := 1) (x := nI 0) dX12_corner_1 (by decide) ?_
  refine P_aload_n (pc := 2) dX12_corner_2 rfl ?_
  refine P_getr (pc := 3) 12 2 dX12_corner_3 fl_X12_13 sh_109 fr_12_2 F_109_2 ?_
  refine P_iconst (pc := 6) (x := nI 1) dX12_corner_6 (by decide) ?_
  refine P_iald (pc := 7) (1) (x := nI (s 111 1)) dX12_corner_7 sh_111 rfl (by omega) (by decide) (hR.1 111 1 rfl) ?_
  refine P_iconst (pc := 8) (x := nI 1) dX12_corner_8 (by decide) ?_
  refine P_isubN (pc := 9) dX12_corner_9 (by omega) ?_
  refine P_iload_n (pc := 10) dX12_corner_10 rfl ?_
  obtain ⟨_, J, _, kn, rfl, rfl, hN, h14, h15⟩ := c_number (l := l) (D := D) (tw := tw) (lo := 0) (hi := s 111 1 - 1) (be := be) (hR.X ht hx) hR.2.2.2.1 hR.2.2.2.2.1 hp9 (by omega) (by omega) (by omega)
  refine P_callV (pc := 11) (S := []) (As := [_, _, _]) kn dX12_corner_11 ok_X12_number ml_X12_112 iv_X12_number ⟨by decide, by decide⟩ (zret_i _) rfl ⟨rfl, by decide⟩ sh_109 ⟨by decide, rfl⟩ (Nat.le_of_ble_eq_true rfl) ?_
  exact P_iret (pc := 14) dX12_corner_14 (⟨rfl, rfl, hN, hR.num hN h14 h15⟩)
theorem zv1_le (s : Nat → Nat → Nat) (p : Nat) : zv1 s p ≤ 99 ∧ zn1 s p ≤ p + 3 ∧ p + 1 ≤ zn1 s p := ⟨(zNum_le _ _ p).2, by have := (zNum_le (s 110) (s 109 1) p).1; show p + (zNum (s 110) (s 109 1) p).1 + 1 ≤ p + 3; omega, by show p + 1 ≤ p + (zNum (s 110) (s 109 1) p).1 + 1; omega⟩
set_option maxRecDepth 20000 in
theorem c_readStreet {l : Launch} {D : va_G} {tw : Nat} {I : AI} {s : Nat → Nat → Nat} {p : Nat} {b f : Bool} (hR : RefR s I p b f) (ht : s 109 1 ≤ 200) (hx : ∀ k, k < s 109 1 → s 110 k ≤ 126) (hp9 : p ≤ 8000) (hdr : DrOk s) : ZP l D zm_X12_readStreet 0 (zent 7 [.ref 109]) [] I (zF tw) (fun v J G => v = none ∧ G = zF tw ∧ zFW I J ∧ RefR (if (((((decide (s 112 1 < 12) && zk1 s p 0 (s 111 1 - 1) 44) && zk1 s (zn1 s p) 0 (s 111 1 - 1) 44) && zk1 s (zn1 s (zn1 s p)) 1 20 59) && decide (¬ (zv1 s p) = (zv1 s (zn1 s p)))) && zDup s (zv1 s p) (zv1 s (zn1 s p)) (s 112 1)) = true then dS s (zv1 s p) (zv1 s (zn1 s p)) (zv1 s (zn1 s (zn1 s p))) else s) J (zn1 s (zn1 s (zn1 s p))) (((((decide (s 112 1 < 12) && zk1 s p 0 (s 111 1 - 1) 44) && zk1 s (zn1 s p) 0 (s 111 1 - 1) 44) && zk1 s (zn1 s (zn1 s p)) 1 20 59) && decide (¬ (zv1 s p) = (zv1 s (zn1 s p)))) && zDup s (zv1 s p) (zv1 s (zn1 s p)) (s 112 1)) f) := by
  have hn1 := hdr.1
  have hn8 := hdr.2.1
  have hs12 := hdr.2.2.1
  have hv1 := zv1_le s (p)
  have hv2 := zv1_le s (zn1 s (p))
  have hv3 := zv1_le s (zn1 s (zn1 s (p)))
  have loop : ∀ (d : Nat) (k : Nat) (K : AI) (v5 v6 : Option Value), s 112 1 - k < d → k ≤ s 112 1 → RefR s K (zn1 s (zn1 s (zn1 s p))) (((((decide (s 112 1 < 12) && zk1 s p 0 (s 111 1 - 1) 44) && zk1 s (zn1 s p) 0 (s 111 1 - 1) 44) && zk1 s (zn1 s (zn1 s p)) 1 20 59) && decide (¬ (zv1 s p) = (zv1 s (zn1 s p)))) && zDup s (zv1 s p) (zv1 s (zn1 s p)) k) f → zFW I K → ZP l D zm_X12_readStreet 68 [some (.ref 109), some (.int (nI (zv1 s p))), some (.int (nI (zv1 s (zn1 s p)))), some (.int (nI (zv1 s (zn1 s (zn1 s p))))), some (.int (nI k)), v5, v6] [] K (zF tw) (fun v J G => v = none ∧ G = zF tw ∧ zFW I J ∧ RefR (if (((((decide (s 112 1 < 12) && zk1 s p 0 (s 111 1 - 1) 44) && zk1 s (zn1 s p) 0 (s 111 1 - 1) 44) && zk1 s (zn1 s (zn1 s p)) 1 20 59) && decide (¬ (zv1 s p) = (zv1 s (zn1 s p)))) && zDup s (zv1 s p) (zv1 s (zn1 s p)) (s 112 1)) = true then dS s (zv1 s p) (zv1 s (zn1 s p)) (zv1 s (zn1 s (zn1 s p))) else s) J (zn1 s (zn1 s (zn1 s p))) (((((decide (s 112 1 < 12) && zk1 s p 0 (s 111 1 - 1) 44) && zk1 s (zn1 s p) 0 (s 111 1 - 1) 44) && zk1 s (zn1 s (zn1 s p)) 1 20 59) && decide (¬ (zv1 s p) = (zv1 s (zn1 s p)))) && zDup s (zv1 s p) (zv1 s (zn1 s p)) (s 112 1)) f) := by
    intro d
    induction d with
    | zero =>
      intro k K v5 v6 hd
      exact absurd hd (by omega)
    | succ d ih =>
      intro k K v5 v6 hd hk hRk hWk
      refine P_iload (pc := 68) dX12_readStreet_68 rfl ?_
      refine P_aload_n (pc := 70) dX12_readStreet_70 rfl ?_
      refine P_getr (pc := 71) 12 3 dX12_readStreet_71 fl_X12_17 sh_109 fr_12_3 F_109_3 ?_
      refine P_iconst (pc := 74) (x := nI 1) dX12_readStreet_74 (by decide) ?_
      refine P_iald (pc := 75) (1) (x := nI (s 112 1)) dX12_readStreet_75 sh_112 rfl (by omega) (by decide) (hRk.1 112 _ rfl) ?_
      refine P_icmp_geN (pc := 76) (tgt := 149) dX12_readStreet_76 (by decide) (by omega) (by omega) (fun h76 => ?_) (fun h76 => ?_)
      · have hk2 : k = s 112 1 := by omega
        rw [hk2] at hRk
        refine P_aload_n (pc := 149) dX12_readStreet_149 rfl ?_
        refine P_geti (pc := 150) 12 15 (x := zb ((((((decide (s 112 1 < 12) && zk1 s p 0 (s 111 1 - 1) 44) && zk1 s (zn1 s p) 0 (s 111 1 - 1) 44) && zk1 s (zn1 s (zn1 s p)) 1 20 59) && decide (¬ (zv1 s p) = (zv1 s (zn1 s p)))) && zDup s (zv1 s p) (zv1 s (zn1 s p)) (s 112 1)))) dX12_readStreet_150 fl_X12_108 sh_109 fi_12_15 (hRk.2.2.2.2.1) ?_
        refine P_if_eqB (pc := 153) (tgt := 163) dX12_readStreet_153 (by decide) (fun h153 => ?_) (fun h153 => ?_)
        · refine P_ret (pc := 163) dX12_readStreet_163 ?_
          refine ⟨rfl, rfl, hWk, ?_⟩
          rw [if_neg (by rw [h153]; decide)]
          exact hRk
        · refine P_aload_n (pc := 156) dX12_readStreet_156 rfl ?_
          refine P_iload_n (pc := 157) dX12_readStreet_157 rfl ?_
          refine P_iload_n (pc := 158) dX12_readStreet_158 rfl ?_
          refine P_iload_n (pc := 159) dX12_readStreet_159 rfl ?_
          have hlt12 : s 112 1 < 12 := by have h9 := h153; simp only [Bool.and_eq_true, decide_eq_true_eq] at h9; exact h9.1.1.1.1.1
          obtain ⟨_, _, _, kf, rfl, rfl, rfl⟩ := c_firstStreet (l := l) (D := D) (tw := tw) (m := s 112 1) (x := (zv1 s p)) (y := (zv1 s (zn1 s p))) (z := (zv1 s (zn1 s (zn1 s p)))) (hRk.1 112 1 rfl) hlt12
          refine P_callV (pc := 160) (S := []) (As := [_, _, _]) kf dX12_readStreet_160 ok_X12_firstStreet ml_X12_74 iv_X12_firstStreet ⟨by decide, by decide⟩ zret_v rfl ⟨rfl, by decide⟩ sh_109 ⟨by decide, rfl⟩ (Nat.le_of_ble_eq_true rfl) ?_
          refine P_ret (pc := 163) dX12_readStreet_163 ?_
          refine ⟨rfl, rfl, (((hWk.u (by omega)).u (by omega)).u (by omega)).u (by omega), ?_⟩
          rw [if_pos h153]
          exact ⟨(((hRk.1.u 113 _ _).u 114 _ _).u 115 _ _).u 112 1 _, hRk.2.1, hRk.2.2.1, hRk.2.2.2.1, hRk.2.2.2.2.1, hRk.2.2.2.2.2⟩
      · have hs1 := hdr.2.2.2.2.2 k (by omega)
        refine P_aload_n (pc := 79) dX12_readStreet_79 rfl ?_
        refine P_getr (pc := 80) 12 4 dX12_readStreet_80 fl_X12_20 sh_109 fr_12_4 F_109_4 ?_
        refine P_bipush (pc := 83) (x := nI 12) dX12_readStreet_83 (by decide) ?_
        refine P_iload (pc := 85) dX12_readStreet_85 rfl ?_
        refine P_iaddN (pc := 87) dX12_readStreet_87 ?_
        refine P_iald (pc := 88) ((12 + k)) (x := nI (s 113 (12 + k))) dX12_readStreet_88 sh_113 rfl (by omega) (by decide) (hRk.1 113 _ rfl) ?_
        refine P_istore (pc := 89) dX12_readStreet_89 (by decide) rfl ?_
        refine P_aload_n (pc := 91) dX12_readStreet_91 rfl ?_
        refine P_getr (pc := 92) 12 5 dX12_readStreet_92 fl_X12_23 sh_109 fr_12_5 F_109_5 ?_
        refine P_bipush (pc := 95) (x := nI 12) dX12_readStreet_95 (by decide) ?_
        refine P_iload (pc := 97) dX12_readStreet_97 rfl ?_
        refine P_iaddN (pc := 99) dX12_readStreet_99 ?_
        refine P_iald (pc := 100) ((12 + k)) (x := nI (s 114 (12 + k))) dX12_readStreet_100 sh_114 rfl (by omega) (by decide) (hRk.1 114 _ rfl) ?_
        refine P_istore (pc := 101) dX12_readStreet_101 (by decide) rfl ?_
        refine P_aload_n (pc := 103) dX12_readStreet_103 rfl ?_
        refine P_aload_n (pc := 104) dX12_readStreet_104 rfl ?_
        refine P_geti (pc := 105) 12 15 (x := zb ((((((decide (s 112 1 < 12) && zk1 s p 0 (s 111 1 - 1) 44) && zk1 s (zn1 s p) 0 (s 111 1 - 1) 44) && zk1 s (zn1 s (zn1 s p)) 1 20 59) && decide (¬ (zv1 s p) = (zv1 s (zn1 s p)))) && zDup s (zv1 s p) (zv1 s (zn1 s p)) k))) dX12_readStreet_105 fl_X12_108 sh_109 fi_12_15 (hRk.2.2.2.2.1) ?_
        refine P_sel1 (pc := 108) (zb (((((decide (s 112 1 < 12) && zk1 s p 0 (s 111 1 - 1) 44) && zk1 s (zn1 s p) 0 (s 111 1 - 1) 44) && zk1 s (zn1 s (zn1 s p)) 1 20 59) && decide (¬ (zv1 s p) = (zv1 s (zn1 s p)))) && zDup s (zv1 s p) (zv1 s (zn1 s p)) (k + 1))) 140 (fun k140_108 => ?_) ?_
        · refine P_if_eqB (pc := 108) (tgt := 139) dX12_readStreet_108 (by decide) (fun h108 => ?_) (fun h108 => ?_)
          · refine P_iconst (pc := 139) (x := nI 0) dX12_readStreet_139 (by decide) ?_
            exact k140_108 _ (by rw [zDup, ← Bool.and_assoc, h108, Bool.false_and]; rfl)
          · refine P_iload (pc := 111) dX12_readStreet_111 rfl ?_
            refine P_iload_n (pc := 113) dX12_readStreet_113 rfl ?_
            refine P_icmp_neN (pc := 114) (tgt := 123) dX12_readStreet_114 (by decide) (by omega) (by omega) (fun h114 => ?_) (fun h114 => ?_)
            · refine P_iload (pc := 123) dX12_readStreet_123 rfl ?_
              refine P_iload_n (pc := 125) dX12_readStreet_125 rfl ?_
              refine P_icmp_neN (pc := 126) (tgt := 135) dX12_readStreet_126 (by decide) (by omega) (by omega) (fun h126 => ?_) (fun h126 => ?_)
              · refine P_iconst (pc := 135) (x := nI 1) dX12_readStreet_135 (by decide) ?_
                refine P_goto (pc := 136) (tgt := 140) dX12_readStreet_136 (by decide) ?_
                exact k140_108 _ (by rw [zDup, decide_eq_false (show ¬ ((s 113 (12 + k) = zv1 s p ∧ s 114 (12 + k) = zv1 s (zn1 s p)) ∨ (s 113 (12 + k) = zv1 s (zn1 s p) ∧ s 114 (12 + k) = zv1 s p)) by omega), Bool.not_false, Bool.and_true, h108]; rfl)
              · refine P_iload (pc := 129) dX12_readStreet_129 rfl ?_
                refine P_iload_n (pc := 131) dX12_readStreet_131 rfl ?_
                refine P_icmp_eqN (pc := 132) (tgt := 139) dX12_readStreet_132 (by decide) (by omega) (by omega) (fun h132 => ?_) (fun h132 => ?_)
                · refine P_iconst (pc := 139) (x := nI 0) dX12_readStreet_139 (by decide) ?_
                  exact k140_108 _ (by rw [zDup, decide_eq_true (show (s 113 (12 + k) = zv1 s p ∧ s 114 (12 + k) = zv1 s (zn1 s p)) ∨ (s 113 (12 + k) = zv1 s (zn1 s p) ∧ s 114 (12 + k) = zv1 s p) by omega), Bool.not_true, Bool.and_false, Bool.and_false]; rfl)
                · refine P_iconst (pc := 135) (x := nI 1) dX12_readStreet_135 (by decide) ?_
                  refine P_goto (pc := 136) (tgt := 140) dX12_readStreet_136 (by decide) ?_
                  exact k140_108 _ (by rw [zDup, decide_eq_false (show ¬ ((s 113 (12 + k) = zv1 s p ∧ s 114 (12 + k) = zv1 s (zn1 s p)) ∨ (s 113 (12 + k) = zv1 s (zn1 s p) ∧ s 114 (12 + k) = zv1 s p)) by omega), Bool.not_false, Bool.and_true, h108]; rfl)
            · refine P_iload (pc := 117) dX12_readStreet_117 rfl ?_
              refine P_iload_n (pc := 119) dX12_readStreet_119 rfl ?_
              refine P_icmp_eqN (pc := 120) (tgt := 139) dX12_readStreet_120 (by decide) (by omega) (by omega) (fun h120 => ?_) (fun h120 => ?_)
              · refine P_iconst (pc := 139) (x := nI 0) dX12_readStreet_139 (by decide) ?_
                exact k140_108 _ (by rw [zDup, decide_eq_true (show (s 113 (12 + k) = zv1 s p ∧ s 114 (12 + k) = zv1 s (zn1 s p)) ∨ (s 113 (12 + k) = zv1 s (zn1 s p) ∧ s 114 (12 + k) = zv1 s p) by omega), Bool.not_true, Bool.and_false, Bool.and_false]; rfl)
              · refine P_iload (pc := 123) dX12_readStreet_123 rfl ?_
                refine P_iload_n (pc := 125) dX12_readStreet_125 rfl ?_
                refine P_icmp_neN (pc := 126) (tgt := 135) dX12_readStreet_126 (by decide) (by omega) (by omega) (fun h126 => ?_) (fun h126 => ?_)
                · refine P_iconst (pc := 135) (x := nI 1) dX12_readStreet_135 (by decide) ?_
                  refine P_goto (pc := 136) (tgt := 140) dX12_readStreet_136 (by decide) ?_
                  exact k140_108 _ (by rw [zDup, decide_eq_false (show ¬ ((s 113 (12 + k) = zv1 s p ∧ s 114 (12 + k) = zv1 s (zn1 s p)) ∨ (s 113 (12 + k) = zv1 s (zn1 s p) ∧ s 114 (12 + k) = zv1 s p)) by omega), Bool.not_false, Bool.and_true, h108]; rfl)
                · refine P_iload (pc := 129) dX12_readStreet_129 rfl ?_
                  refine P_iload_n (pc := 131) dX12_readStreet_131 rfl ?_
                  refine P_icmp_eqN (pc := 132) (tgt := 139) dX12_readStreet_132 (by decide) (by omega) (by omega) (fun h132 => ?_) (fun h132 => ?_)
                  · refine P_iconst (pc := 139) (x := nI 0) dX12_readStreet_139 (by decide) ?_
                    exact k140_108 _ (by rw [zDup, decide_eq_true (show (s 113 (12 + k) = zv1 s p ∧ s 114 (12 + k) = zv1 s (zn1 s p)) ∨ (s 113 (12 + k) = zv1 s (zn1 s p) ∧ s 114 (12 + k) = zv1 s p) by omega), Bool.not_true, Bool.and_false, Bool.and_false]; rfl)
                  · refine P_iconst (pc := 135) (x := nI 1) dX12_readStreet_135 (by decide) ?_
                    refine P_goto (pc := 136) (tgt := 140) dX12_readStreet_136 (by decide) ?_
                    exact k140_108 _ (by rw [zDup, decide_eq_false (show ¬ ((s 113 (12 + k) = zv1 s p ∧ s 114 (12 + k) = zv1 s (zn1 s p)) ∨ (s 113 (12 + k) = zv1 s (zn1 s p) ∧ s 114 (12 + k) = zv1 s p)) by omega), Bool.not_false, Bool.and_true, h108]; rfl)
        · refine P_puti (pc := 140) 12 15 dX12_readStreet_140 fl_X12_108 sh_109 fp_12_15 (by cases ((((((decide (s 112 1 < 12) && zk1 s p 0 (s 111 1 - 1) 44) && zk1 s (zn1 s p) 0 (s 111 1 - 1) 44) && zk1 s (zn1 s (zn1 s p)) 1 20 59) && decide (¬ (zv1 s p) = (zv1 s (zn1 s p)))) && zDup s (zv1 s p) (zv1 s (zn1 s p)) (k + 1))) <;> rfl) (by cases ((((((decide (s 112 1 < 12) && zk1 s p 0 (s 111 1 - 1) 44) && zk1 s (zn1 s p) 0 (s 111 1 - 1) 44) && zk1 s (zn1 s (zn1 s p)) 1 20 59) && decide (¬ (zv1 s p) = (zv1 s (zn1 s p)))) && zDup s (zv1 s p) (zv1 s (zn1 s p)) (k + 1))) <;> rfl) ?_
          refine P_iincN (pc := 143) (c := 1) dX12_readStreet_143 rfl (by decide) (by decide) rfl ?_
          refine P_goto (pc := 146) (tgt := 68) dX12_readStreet_146 (by decide) ?_
          exact ih (k + 1) _ _ _ (by omega) (by omega) (hRk.num (zFN.rf.f (Or.inr rfl)) hRk.2.2.2.1 (zu_s _ _ _ _)) (hWk.u (Or.inr ⟨rfl, by omega, by omega⟩))
  show ZP _ _ _ _ [some _, none, none, none, none, none, none] _ _ _ _
  refine P_aload_n (pc := 0) dX12_readStreet_0 rfl ?_
  refine P_aload_n (pc := 1) dX12_readStreet_1 rfl ?_
  refine P_getr (pc := 2) 12 3 dX12_readStreet_2 fl_X12_17 sh_109 fr_12_3 F_109_3 ?_
  refine P_iconst (pc := 5) (x := nI 1) dX12_readStreet_5 (by decide) ?_
  refine P_iald (pc := 6) (1) (x := nI (s 112 1)) dX12_readStreet_6 sh_112 rfl (by omega) (by decide) (hR.1 112 1 rfl) ?_
  refine P_bipush (pc := 7) (x := nI 12) dX12_readStreet_7 (by decide) ?_
  refine P_sel2 (pc := 9) (zb (decide (s 112 1 < 12))) 17 (fun k17_9 => ?_) ?_
  · refine P_icmp_geN (pc := 9) (tgt := 16) dX12_readStreet_9 (by decide) (by omega) (by omega) (fun h9 => ?_) (fun h9 => ?_)
    · refine P_iconst (pc := 16) (x := nI 0) dX12_readStreet_16 (by decide) ?_
      exact k17_9 _ (by rw [decide_eq_false (by omega)]; rfl)
    · refine P_iconst (pc := 12) (x := nI 1) dX12_readStreet_12 (by decide) ?_
      refine P_goto (pc := 13) (tgt := 17) dX12_readStreet_13 (by decide) ?_
      exact k17_9 _ (by rw [decide_eq_true (by omega)]; rfl)
  · refine P_puti (pc := 17) 12 15 dX12_readStreet_17 fl_X12_108 sh_109 fp_12_15 (by cases (decide (s 112 1 < 12)) <;> rfl) (by cases (decide (s 112 1 < 12)) <;> rfl) ?_
    have hR0 : RefR s (zu I 109 15 (zb (decide (s 112 1 < 12)))) p (decide (s 112 1 < 12)) f := hR.num (zFN.rf.f (Or.inr rfl)) hR.2.2.2.1 (zu_s _ _ _ _)
    refine P_aload_n (pc := 20) dX12_readStreet_20 rfl ?_
    refine P_bipush (pc := 21) (x := nI 44) dX12_readStreet_21 (by decide) ?_
    obtain ⟨_, J1, _, k1, rfl, rfl, hN1, hR1⟩ := c_corner (l := l) (D := D) (tw := tw) (be := 44) hR0 ht hx (by omega) hn1 hn8 (by omega)
    refine P_callV (pc := 23) (S := []) (As := [_]) k1 dX12_readStreet_23 ok_X12_corner ml_X12_116 iv_X12_corner ⟨by decide, by decide⟩ (zret_i _) rfl ⟨rfl, by decide⟩ sh_109 ⟨by decide, rfl⟩ (Nat.le_of_ble_eq_true rfl) ?_
    refine P_istore_n (pc := 26) dX12_readStreet_26 (by decide) rfl ?_
    refine P_aload_n (pc := 27) dX12_readStreet_27 rfl ?_
    refine P_bipush (pc := 28) (x := nI 44) dX12_readStreet_28 (by decide) ?_
    obtain ⟨_, J2, _, k2, rfl, rfl, hN2, hR2⟩ := c_corner (l := l) (D := D) (tw := tw) (be := 44) hR1 ht hx (by omega) hn1 hn8 (by omega)
    refine P_callV (pc := 30) (S := []) (As := [_]) k2 dX12_readStreet_30 ok_X12_corner ml_X12_116 iv_X12_corner ⟨by decide, by decide⟩ (zret_i _) rfl ⟨rfl, by decide⟩ sh_109 ⟨by decide, rfl⟩ (Nat.le_of_ble_eq_true rfl) ?_
    refine P_istore_n (pc := 33) dX12_readStreet_33 (by decide) rfl ?_
    refine P_aload_n (pc := 34) dX12_readStreet_34 rfl ?_
    refine P_iconst (pc := 35) (x := nI 1) dX12_readStreet_35 (by decide) ?_
    refine P_bipush (pc := 36) (x := nI 20) dX12_readStreet_36 (by decide) ?_
    refine P_bipush (pc := 38) (x := nI 59) dX12_readStreet_38 (by decide) ?_
    obtain ⟨_, J3, _, k3, rfl, rfl, hN3, h14, h15⟩ := c_number (l := l) (D := D) (tw := tw) (lo := 1) (hi := 20) (be := 59) (hR2.X ht hx) hR2.2.2.2.1 hR2.2.2.2.2.1 (by omega) (by omega) (by omega) (by omega)
    have hR3 := hR2.num hN3 h14 h15
    refine P_callV (pc := 40) (S := []) (As := [_, _, _]) k3 dX12_readStreet_40 ok_X12_number ml_X12_112 iv_X12_number ⟨by decide, by decide⟩ (zret_i _) rfl ⟨rfl, by decide⟩ sh_109 ⟨by decide, rfl⟩ (Nat.le_of_ble_eq_true rfl) ?_
    refine P_istore_n (pc := 43) dX12_readStreet_43 (by decide) rfl ?_
    refine P_aload_n (pc := 44) dX12_readStreet_44 rfl ?_
    refine P_aload_n (pc := 45) dX12_readStreet_45 rfl ?_
    refine P_geti (pc := 46) 12 15 (x := zb ((((decide (s 112 1 < 12) && zk1 s p 0 (s 111 1 - 1) 44) && zk1 s (zn1 s p) 0 (s 111 1 - 1) 44) && zk1 s (zn1 s (zn1 s p)) 1 20 59))) dX12_readStreet_46 fl_X12_108 sh_109 fi_12_15 (hR3.2.2.2.2.1) ?_
    refine P_sel1 (pc := 49) (zb ((((decide (s 112 1 < 12) && zk1 s p 0 (s 111 1 - 1) 44) && zk1 s (zn1 s p) 0 (s 111 1 - 1) 44) && zk1 s (zn1 s (zn1 s p)) 1 20 59) && decide (¬ (zv1 s p) = (zv1 s (zn1 s p))))) 62 (fun k62_49 => ?_) ?_
    · refine P_if_eqB (pc := 49) (tgt := 61) dX12_readStreet_49 (by decide) (fun h49 => ?_) (fun h49 => ?_)
      · refine P_iconst (pc := 61) (x := nI 0) dX12_readStreet_61 (by decide) ?_
        exact k62_49 _ (by rw [h49, Bool.false_and]; rfl)
      · refine P_iload_n (pc := 52) dX12_readStreet_52 rfl ?_
        refine P_iload_n (pc := 53) dX12_readStreet_53 rfl ?_
        refine P_icmp_eqN (pc := 54) (tgt := 61) dX12_readStreet_54 (by decide) (by omega) (by omega) (fun h54 => ?_) (fun h54 => ?_)
        · refine P_iconst (pc := 61) (x := nI 0) dX12_readStreet_61 (by decide) ?_
          exact k62_49 _ (by rw [decide_eq_false (show ¬ ¬ zv1 s p = zv1 s (zn1 s p) from fun z => z h54), Bool.and_false]; rfl)
        · refine P_iconst (pc := 57) (x := nI 1) dX12_readStreet_57 (by decide) ?_
          refine P_goto (pc := 58) (tgt := 62) dX12_readStreet_58 (by decide) ?_
          exact k62_49 _ (by rw [h49, decide_eq_true h54]; rfl)
    · refine P_puti (pc := 62) 12 15 dX12_readStreet_62 fl_X12_108 sh_109 fp_12_15 (by cases (((((decide (s 112 1 < 12) && zk1 s p 0 (s 111 1 - 1) 44) && zk1 s (zn1 s p) 0 (s 111 1 - 1) 44) && zk1 s (zn1 s (zn1 s p)) 1 20 59) && decide (¬ (zv1 s p) = (zv1 s (zn1 s p))))) <;> rfl) (by cases (((((decide (s 112 1 < 12) && zk1 s p 0 (s 111 1 - 1) 44) && zk1 s (zn1 s p) 0 (s 111 1 - 1) 44) && zk1 s (zn1 s (zn1 s p)) 1 20 59) && decide (¬ (zv1 s p) = (zv1 s (zn1 s p))))) <;> rfl) ?_
      refine P_iconst (pc := 65) (x := nI 0) dX12_readStreet_65 (by decide) ?_
      refine P_istore (pc := 66) dX12_readStreet_66 (by decide) rfl ?_
      refine loop (s 112 1 + 1) 0 _ none none (by omega) (by omega) ?_ ?_
      · have h9 := hR3.num (b2 := ((((decide (s 112 1 < 12) && zk1 s p 0 (s 111 1 - 1) 44) && zk1 s (zn1 s p) 0 (s 111 1 - 1) 44) && zk1 s (zn1 s (zn1 s p)) 1 20 59) && decide (¬ (zv1 s p) = (zv1 s (zn1 s p))))) (zFN.rf.f (Or.inr rfl)) hR3.2.2.2.1 (zu_s _ _ _ _)
        rw [show (((((decide (s 112 1 < 12) && zk1 s p 0 (s 111 1 - 1) 44) && zk1 s (zn1 s p) 0 (s 111 1 - 1) 44) && zk1 s (zn1 s (zn1 s p)) 1 20 59) && decide (¬ (zv1 s p) = (zv1 s (zn1 s p)))) && zDup s (zv1 s p) (zv1 s (zn1 s p)) 0) = ((((decide (s 112 1 < 12) && zk1 s p 0 (s 111 1 - 1) 44) && zk1 s (zn1 s p) 0 (s 111 1 - 1) 44) && zk1 s (zn1 s (zn1 s p)) 1 20 59) && decide (¬ (zv1 s p) = (zv1 s (zn1 s p)))) from Bool.and_true _]
        exact h9
      · exact (((((zFN.rf.f (Or.inr rfl)).trans hN1).trans hN2).trans hN3).f (Or.inr rfl)).W
