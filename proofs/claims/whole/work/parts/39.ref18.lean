set_option maxRecDepth 20000 in
theorem c_fault {l : Launch} {D : va_G} {tw : Nat} {I : AI} {s : Nat → Nat → Nat} (hR0 : RefV s I) (hA1 : I 109 1 = nI (s 109 1)) (ht : s 109 1 ≤ 200) (hx : ∀ k, k < s 109 1 → s 110 k ≤ 126) : ZP l D zm_X12_fault 0 (zent 2 [.ref 109]) [] I (zF tw) (fun v J G => v = some (aFault s) ∧ G = zF tw ∧ zFW I J ∧ ∃ s2, RefV s2 J ∧ J 109 13 = nI (s2 109 13) ∧ Scr zDr s s2 ∧ ∀ s3, zPar 201 (sIni s) true 0 = .inr s3 → s2 = s3 ∧ ∃ f3, DrF s3 f3) := by
  have loop : ∀ (d : Nat) (p : Nat) (sk : Nat → Nat → Nat) (f : Bool) (J : AI) (n : Nat), n < d → sk 109 1 + 1 ≤ p + n → p ≤ 300 → RefQ sk J p f → zFW I J → Scr zDr s sk → DrF sk f → sk 109 1 = s 109 1 → (∀ j, sk 110 j = s 110 j) → zPar n sk f p = zPar 201 (sIni s) true 0 → ∀ (v1 : Option Value), ZP l D zm_X12_fault 43 [some (.ref 109), v1] [] J (zF tw) (fun v J G => v = some (aFault s) ∧ G = zF tw ∧ zFW I J ∧ ∃ s2, RefV s2 J ∧ J 109 13 = nI (s2 109 13) ∧ Scr zDr s s2 ∧ ∀ s3, zPar 201 (sIni s) true 0 = .inr s3 → s2 = s3 ∧ ∃ f3, DrF s3 f3) := by
    intro d
    induction d with
    | zero =>
      intro p sk f J n hd
      exact absurd hd (by omega)
    | succ d ih =>
      intro p sk f J n hd hpn hp3 hR hW hS hD ht1 ht0 hZ v1
      refine P_aload_n (pc := 43) dX12_fault_43 rfl ?_
      refine P_geti (pc := 44) 12 14 (x := nI (p)) dX12_fault_44 fl_X12_101 sh_109 fi_12_14 (hR.2.2.2.1) ?_
      refine P_aload_n (pc := 47) dX12_fault_47 rfl ?_
      refine P_geti (pc := 48) 12 1 (x := nI (sk 109 1)) dX12_fault_48 fl_X12_98 sh_109 fi_12_1 (hR.2.1) ?_
      refine P_icmp_geN (pc := 51) (tgt := 75) dX12_fault_51 (by decide) (by omega) (by omega) (fun h51 => ?_) (fun h51 => ?_)
      · refine P_bipush (pc := 75) (x := (-4)) dX12_fault_75 (by decide) ?_
        refine P_iret (pc := 77) dX12_fault_77 ?_
        have hZ2 : zPar 201 (sIni s) true 0 = .inr sk := by
          rw [← hZ]
          cases n with
          | zero => rfl
          | succ n => rw [zPar, if_neg (by omega)]
        exact ⟨by unfold aFault; rw [hZ2], rfl, hW, sk, hR.1, hR.2.2.1, hS, fun s3 h3 => by rw [hZ2] at h3; cases h3; exact ⟨rfl, f, hD⟩⟩
      · have hn : ∃ m, n = m + 1 := ⟨n - 1, by omega⟩
        obtain ⟨m, rfl⟩ := hn
        refine P_aload_n (pc := 54) dX12_fault_54 rfl ?_
        refine P_geti (pc := 55) 12 14 (x := nI (p)) dX12_fault_55 fl_X12_101 sh_109 fi_12_14 (hR.2.2.2.1) ?_
        refine P_istore_n (pc := 58) dX12_fault_58 (by decide) rfl ?_
        refine P_aload_n (pc := 59) dX12_fault_59 rfl ?_
        obtain ⟨_, J2, _, kr, rfl, rfl, s2, p2, b2, f2, hR2, hW2, hS2, hI2⟩ := c_readItem (l := l) (D := D) (tw := tw) hR (by rw [ht1]; exact ht) (fun k hk => by rw [ht1] at hk; rw [ht0]; exact hx k hk) (by omega) hD.ok
        refine P_callV (pc := 60) (S := []) (As := []) kr dX12_fault_60 ok_X12_readItem ml_X12_126 iv_X12_readItem ⟨by decide, by decide⟩ zret_v rfl ⟨rfl, by decide⟩ sh_109 ⟨by decide, rfl⟩ (Nat.le_of_ble_eq_true rfl) ?_
        refine P_aload_n (pc := 63) dX12_fault_63 rfl ?_
        refine P_geti (pc := 64) 12 15 (x := zb (b2)) dX12_fault_64 fl_X12_108 sh_109 fi_12_15 (hR2.2.2.2.2.1) ?_
        refine P_if_neB (pc := 67) (tgt := 72) dX12_fault_67 (by decide) (fun h67 => ?_) (fun h67 => ?_)
        · refine P_goto (pc := 72) (tgt := 43) dX12_fault_72 (by decide) ?_
          rcases hz : zItem sk f p with _ | q
          · rw [hz] at hI2; rw [hI2] at h67; cases h67
          · rw [hz] at hI2
            obtain ⟨-, e1, e2, e3⟩ := hI2
            have hok := zItem_ok hD hz
            subst e1 e2 e3
            refine ih q.2.1 q.1 q.2.2 J2 m (by omega) (by have e9 := hS2 109 1 rfl; have := hok.2.1; omega) (by have := hok.2.1; omega) hR2.Q (hW.trans hW2) (hS.trans hS2) hok.1 ((hS2 109 1 rfl).trans ht1) (fun j => (hS2 110 j rfl).trans (ht0 j)) ?_ _
            rw [← hZ]
            show _ = zPar (m + 1) sk f p
            rw [zPar, if_pos (by omega), hz]
        · refine P_iload_n (pc := 70) dX12_fault_70 rfl ?_
          refine P_iret (pc := 71) dX12_fault_71 ?_
          have hz : zItem sk f p = none := by
            rcases hz : zItem sk f p with _ | q
            · rfl
            · rw [hz] at hI2; rw [hI2.1] at h67; cases h67
          have hZ2 : zPar 201 (sIni s) true 0 = .inl p := by rw [← hZ, zPar, if_pos (by omega), hz]
          exact ⟨by unfold aFault; rw [hZ2], rfl, hW.trans hW2, s2, hR2.1, hR2.2.2.1, hS.trans hS2, fun s3 h3 => by rw [hZ2] at h3; cases h3⟩
  show ZP _ _ _ _ [some _, none] _ _ _ _
  refine P_aload_n (pc := 0) dX12_fault_0 rfl ?_
  refine P_iconst (pc := 1) (x := nI 0) dX12_fault_1 (by decide) ?_
  refine P_puti (pc := 2) 12 14 dX12_fault_2 fl_X12_101 sh_109 fp_12_14 rfl rfl ?_
  refine P_aload_n (pc := 5) dX12_fault_5 rfl ?_
  refine P_iconst (pc := 6) (x := nI 1) dX12_fault_6 (by decide) ?_
  refine P_puti (pc := 7) 12 16 dX12_fault_7 fl_X12_120 sh_109 fp_12_16 (by decide) (by decide) ?_
  refine P_aload_n (pc := 10) dX12_fault_10 rfl ?_
  refine P_getr (pc := 11) 12 2 dX12_fault_11 fl_X12_13 sh_109 fr_12_2 F_109_2 ?_
  refine P_iconst (pc := 14) (x := nI 1) dX12_fault_14 (by decide) ?_
  refine P_iconst (pc := 15) (x := nI 4) dX12_fault_15 (by decide) ?_
  refine P_iast (pc := 16) (1) dX12_fault_16 sh_111 rfl (by omega) (by decide) ?_
  refine P_aload_n (pc := 17) dX12_fault_17 rfl ?_
  refine P_getr (pc := 18) 12 3 dX12_fault_18 fl_X12_17 sh_109 fr_12_3 F_109_3 ?_
  refine P_iconst (pc := 21) (x := nI 1) dX12_fault_21 (by decide) ?_
  refine P_iconst (pc := 22) (x := nI 0) dX12_fault_22 (by decide) ?_
  refine P_iast (pc := 23) (1) dX12_fault_23 sh_112 rfl (by omega) (by decide) ?_
  refine P_aload_n (pc := 24) dX12_fault_24 rfl ?_
  refine P_getr (pc := 25) 12 7 dX12_fault_25 fl_X12_29 sh_109 fr_12_7 F_109_7 ?_
  refine P_iconst (pc := 28) (x := nI 1) dX12_fault_28 (by decide) ?_
  refine P_iconst (pc := 29) (x := nI 0) dX12_fault_29 (by decide) ?_
  refine P_iast (pc := 30) (1) dX12_fault_30 sh_116 rfl (by omega) (by decide) ?_
  refine P_aload_n (pc := 31) dX12_fault_31 rfl ?_
  refine P_iconst (pc := 32) (x := nI 0) dX12_fault_32 (by decide) ?_
  refine P_puti (pc := 33) 12 13 dX12_fault_33 fl_X12_90 sh_109 fp_12_13 rfl rfl ?_
  refine P_aload_n (pc := 36) dX12_fault_36 rfl ?_
  refine P_iconst (pc := 37) (x := nI 2) dX12_fault_37 (by decide) ?_
  refine P_iconst (pc := 38) (x := nI 3) dX12_fault_38 (by decide) ?_
  refine P_iconst (pc := 39) (x := nI 1) dX12_fault_39 (by decide) ?_
  obtain ⟨_, _, _, kf, rfl, rfl, rfl⟩ := c_firstRates (l := l) (D := D) (tw := tw) (I := zu (zu (zu (zu (zu (zu I 109 14 (nI 0)) 109 16 (nI 1)) 111 1 (nI 4)) 112 1 (nI 0)) 116 1 (nI 0)) 109 13 (nI 0)) (r := 2) (d := 3) (q := 1)
  refine P_callV (pc := 40) (S := []) (As := [_, _, _]) kf dX12_fault_40 ok_X12_firstRates ml_X12_84 iv_X12_firstRates ⟨by decide, by decide⟩ zret_v rfl ⟨rfl, by decide⟩ sh_109 ⟨by decide, rfl⟩ (Nat.le_of_ble_eq_true rfl) ?_
  refine loop 202 0 (sIni s) true _ 201 (by omega) (by show s 109 1 + 1 ≤ 0 + 201; omega) (by omega) ?_ ?_ ?_ (sIni_ok s) rfl (fun _ => rfl) rfl none
  · refine ⟨?_, hA1, rfl, rfl, rfl⟩
    exact ((((((((hR0.o9 (k := 14) (x := nI 0)).o9 (k := 16) (x := nI 1)).u 111 1 4).u 112 1 0).u 116 1 0).u 109 13 0).u 120 3 2).u 120 4 3).u 120 5 1
  · exact ((((((((zFW.rf.u (Or.inr ⟨rfl, by omega, by omega⟩)).u (Or.inr ⟨rfl, by omega, by omega⟩)).u (by omega)).u (by omega)).u (by omega)).u (Or.inr ⟨rfl, by omega, by omega⟩)).u (by omega)).u (by omega)).u (by omega)
  · exact ((((((Scr.rf.u rfl).u rfl).u rfl).u rfl).u rfl).u rfl).u rfl
