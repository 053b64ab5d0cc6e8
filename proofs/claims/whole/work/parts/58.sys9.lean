theorem CTx.eq {tx : Nat → Nat} {tn : Nat} {I J : AI} (h : CTx tx tn I) (h1 : J 1 = I 1) (h2 : J 2 = I 2) : CTx tx tn J := ⟨by rw [h1]; exact h.1, h.2.1, fun k hk => by rw [h2]; exact h.2.2 k hk⟩
/-- a number as the system tells it -/
def zNv (q : Nat × Nat) : Int32 := if q.1 = 0 then -4 else nI q.2
/-- it is a number, and that letter stands behind -/
def zRk (tx : Nat → Nat) (tn p be : Nat) : Bool := decide (0 < (zNum tx tn p).1) && decide (zCh tx tn (zNe tx tn p) = some be)
theorem zNok_rk {tx : Nat → Nat} {tn p lo hi be : Nat} : zNok tx tn p lo hi be = (zRk tx tn p be && decide (lo ≤ (zNum tx tn p).2 ∧ (zNum tx tn p).2 ≤ hi)) := by
  unfold zNok zRk
  cases decide (0 < (zNum tx tn p).1) <;> cases decide (zCh tx tn (zNe tx tn p) = some be) <;> cases decide (lo ≤ (zNum tx tn p).2 ∧ (zNum tx tn p).2 ≤ hi) <;> rfl
theorem zRk_0 {tx : Nat → Nat} {tn p be : Nat} (h : (zNum tx tn p).1 = 0) : zRk tx tn p be = false := by unfold zRk; rw [h]; rfl
theorem zRk_f {tx : Nat → Nat} {tn p be : Nat} (h : ¬ zCh tx tn (zNe tx tn p) = some be) : zRk tx tn p be = false := by unfold zRk; rw [decide_eq_false h, Bool.and_false]
theorem zRk_t {tx : Nat → Nat} {tn p be : Nat} (h : ¬ (zNum tx tn p).1 = 0) (h2 : zCh tx tn (zNe tx tn p) = some be) : zRk tx tn p be = true := by unfold zRk; rw [decide_eq_true h2, decide_eq_true (by omega)]; rfl
theorem zo_chr4 {o : Option Nat} {be : Nat} (hb : be < 2 ^ 31) (ho : ∀ c, o = some c → c < 2 ^ 31) : zo (-4) o = nI be ↔ o = some be := by
  cases o with
  | none => exact ⟨fun h => absurd h.symm (zne4 hb), fun h => by cases h⟩
  | some m =>
    show nI m = nI be ↔ some m = some be
    rw [nI_eq (ho m rfl) hb]
    exact ⟨fun h => by rw [h], fun h => by cases h; rfl⟩
/-- the reader's own places alone are written, and not whether only corners were told -/
def zRr (I J : AI) : Prop := (∀ a, a ≠ 3 → a ≠ 4 → J a = I a) ∧ J 3 2 = I 3 2
theorem zRr.rf {I : AI} : zRr I I := ⟨fun _ _ _ => rfl, rfl⟩
theorem zRr.trans {I J K : AI} (h : zRr I J) (h2 : zRr J K) : zRr I K := ⟨fun a h3 h4 => (h2.1 a h3 h4).trans (h.1 a h3 h4), h2.2.trans h.2⟩
theorem zRr.u3 {I J : AI} (h : zRr I J) {x : Int32} : zRr I (zu J 3 1 x) := ⟨fun a h3 h4 => (zu_o _ _ h3).trans (h.1 a h3 h4), (zu_n _ _ (by decide)).trans h.2⟩
theorem zRr.u4 {I J : AI} (h : zRr I J) {k : Nat} {x : Int32} : zRr I (zu J 4 k x) := ⟨fun a h3 h4 => (zu_o _ _ h4).trans (h.1 a h3 h4), (congrFun (zu_o _ _ (by decide)) 2).trans h.2⟩
theorem CTx.rr {tx : Nat → Nat} {tn : Nat} {I J : AI} (h : CTx tx tn I) (h2 : zRr I J) : CTx tx tn J := h.eq (h2.1 1 (by decide) (by decide)) (h2.1 2 (by decide) (by decide))
set_option maxRecDepth 20000 in
theorem c_isWithin {l : Launch} {D : va_G} {tw : Nat} {I : AI} {x : Int32} {n : Nat} (hn : n < 2 ^ 31) : ZP l D zm_X11_isWithin 0 (zent 2 [.int x, .int (nI n)]) [] I (zF tw) (fun v J G => v = some (zb (zix x n)) ∧ I = J ∧ G = zF tw) := by
  show ZP _ _ _ _ [some _, some _] _ _ _ _
  refine P_iload_n (pc := 0) dX11_isWithin_0 rfl ?_
  refine P_if_lt (pc := 1) (tgt := 13) dX11_isWithin_1 (by decide) (fun h1 => ?_) (fun h1 => ?_)
  · refine P_iconst (pc := 13) (x := nI 0) dX11_isWithin_13 (by decide) ?_
    exact P_iret (pc := 14) dX11_isWithin_14 (⟨congrArg some (zb_f (fun z => by have := Int32.lt_iff_toInt_lt.mp h1; have z1 := z.1; exact absurd this (Int.not_lt.mpr z1))), rfl, rfl⟩)
  · refine P_iload_n (pc := 4) dX11_isWithin_4 rfl ?_
    refine P_iload_n (pc := 5) dX11_isWithin_5 rfl ?_
    refine P_icmp_ge (pc := 6) (tgt := 13) dX11_isWithin_6 (by decide) (fun h6 => ?_) (fun h6 => ?_)
    · refine P_iconst (pc := 13) (x := nI 0) dX11_isWithin_13 (by decide) ?_
      exact P_iret (pc := 14) dX11_isWithin_14 (⟨congrArg some (zb_f (fun z => by have := Int32.le_iff_toInt_le.mp h6; rw [nI_toInt hn] at this; have z2 := z.2; omega)), rfl, rfl⟩)
    · refine P_iconst (pc := 9) (x := nI 1) dX11_isWithin_9 (by decide) ?_
      refine P_goto (pc := 10) (tgt := 14) dX11_isWithin_10 (by decide) ?_
      exact P_iret (pc := 14) dX11_isWithin_14 (⟨congrArg some (zb_t ⟨by have := Int32.le_iff_toInt_le.mp (Int32.not_lt.mp h1); exact this, by have := Int32.lt_iff_toInt_lt.mp (Int32.not_le.mp h6); rw [nI_toInt hn] at this; exact this⟩), rfl, rfl⟩)
set_option maxRecDepth 20000 in
theorem c_readNumber {l : Launch} {D : va_G} {tw : Nat} {I : AI} {tx : Nat → Nat} {tn p : Nat} (hX : CTx tx tn I) (hp : I 3 1 = nI p) (hp2 : p ≤ 10000) : ZP l D zm_X2_readNumber 0 (zent 5 [.ref 3, .ref 1]) [] I (zF tw) (fun v J G => v = some (zNv (zNum tx tn p)) ∧ G = zF tw ∧ (∀ a, a ≠ 3 → J a = I a) ∧ J 3 2 = I 3 2 ∧ J 3 1 = nI (zNe tx tn p)) := by
  show ZP _ _ _ _ [some _, some _, none, none, none] _ _ _ _
  refine P_bipush (pc := 0) (x := (-4)) dX2_readNumber_0 (by decide) ?_
  refine P_istore_n (pc := 2) dX2_readNumber_2 (by decide) rfl ?_
  refine P_iconst (pc := 3) (x := nI 0) dX2_readNumber_3 (by decide) ?_
  refine P_istore_n (pc := 4) dX2_readNumber_4 (by decide) rfl ?_
  refine P_iload_n (pc := 5) dX2_readNumber_5 rfl ?_
  refine P_iconst (pc := 6) (x := nI 2) dX2_readNumber_6 (by decide) ?_
  refine P_icmp_geF (pc := 7) (tgt := 73) dX2_readNumber_7 (by decide) (by decide) ?_
  refine P_aload_n (pc := 10) dX2_readNumber_10 rfl ?_
  refine P_aload_n (pc := 11) dX2_readNumber_11 rfl ?_
  refine P_geti (pc := 12) 2 1 (x := nI (p)) dX2_readNumber_12 fl_X2_20 sh_3 fi_2_1 (hp) ?_
  obtain ⟨_, _, _, kl0, rfl, rfl, rfl⟩ := c_letterAt (l := l) (D := D) (tw := tw) (I := I) (hX.rr zRr.rf) (p := p) (by omega)
  refine P_callV (pc := 15) (S := []) (As := [_]) kl0 dX2_readNumber_15 ok_X7_letterAt ml_X2_33 iv_X7_letterAt ⟨by decide, by decide⟩ (zret_i _) rfl ⟨rfl, by decide⟩ sh_1 ⟨by decide, rfl⟩ (Nat.le_of_ble_eq_true rfl) ?_
  rcases hc0 : zCh tx tn p with _ | c0
  · refine P_istore (pc := 18) dX2_readNumber_18 (by decide) rfl ?_
    refine P_iload (pc := 20) dX2_readNumber_20 rfl ?_
    refine P_bipush (pc := 22) (x := nI 48) dX2_readNumber_22 (by decide) ?_
    refine P_icmp_ltT (pc := 24) (tgt := 34) dX2_readNumber_24 (by decide) (by decide) ?_
    refine P_iload_n (pc := 34) dX2_readNumber_34 rfl ?_
    refine P_iret (pc := 35) dX2_readNumber_35 ?_
    have hz : zNum tx tn p = (0, 0) := zNum_0 (zDg_no hc0)
    exact ⟨by rw [hz]; exact rfl, rfl, fun _ _ => rfl, rfl, by show _ = nI (p + (zNum tx tn p).1); rw [hz]; exact hp⟩
  · have hb0 := zCh_lt (fun k hk => (hX.2.2 k hk).2) hc0
    refine P_istore (pc := 18) dX2_readNumber_18 (by decide) rfl ?_
    refine P_iload (pc := 20) dX2_readNumber_20 rfl ?_
    refine P_bipush (pc := 22) (x := nI 48) dX2_readNumber_22 (by decide) ?_
    refine P_icmp_ltN (pc := 24) (tgt := 34) dX2_readNumber_24 (by decide) (by omega) (by omega) (fun h24 => ?_) (fun h24 => ?_)
    · refine P_iload_n (pc := 34) dX2_readNumber_34 rfl ?_
      refine P_iret (pc := 35) dX2_readNumber_35 ?_
      have hz : zNum tx tn p = (0, 0) := zNum_0 (zDg_bad hc0 (by omega))
      exact ⟨by rw [hz]; exact rfl, rfl, fun _ _ => rfl, rfl, by show _ = nI (p + (zNum tx tn p).1); rw [hz]; exact hp⟩
    · refine P_iload (pc := 27) dX2_readNumber_27 rfl ?_
      refine P_bipush (pc := 29) (x := nI 57) dX2_readNumber_29 (by decide) ?_
      refine P_icmp_leN (pc := 31) (tgt := 36) dX2_readNumber_31 (by decide) (by omega) (by omega) (fun h31 => ?_) (fun h31 => ?_)
      · refine P_iload_n (pc := 36) dX2_readNumber_36 rfl ?_
        refine P_bipush (pc := 37) (x := (-4)) dX2_readNumber_37 (by decide) ?_
        refine P_icmp_neF (pc := 39) (tgt := 46) dX2_readNumber_39 (by decide) (by decide) ?_
        refine P_iconst (pc := 42) (x := nI 0) dX2_readNumber_42 (by decide) ?_
        refine P_goto (pc := 43) (tgt := 50) dX2_readNumber_43 (by decide) ?_
        refine P_iload (pc := 50) dX2_readNumber_50 rfl ?_
        refine P_iaddN (pc := 52) dX2_readNumber_52 ?_
        refine P_bipush (pc := 53) (x := nI 48) dX2_readNumber_53 (by decide) ?_
        refine P_isubN (pc := 55) dX2_readNumber_55 (by omega) ?_
        refine P_istore_n (pc := 56) dX2_readNumber_56 (by decide) rfl ?_
        refine P_aload_n (pc := 57) dX2_readNumber_57 rfl ?_
        refine P_dup (pc := 58) dX2_readNumber_58 rfl ?_
        refine P_geti (pc := 59) 2 1 (x := nI (p)) dX2_readNumber_59 fl_X2_20 sh_3 fi_2_1 (hp) ?_
        refine P_iconst (pc := 62) (x := nI 1) dX2_readNumber_62 (by decide) ?_
        refine P_iaddN (pc := 63) dX2_readNumber_63 ?_
        refine P_puti (pc := 64) 2 1 dX2_readNumber_64 fl_X2_20 sh_3 fp_2_1 rfl rfl ?_
        refine P_iincN (pc := 67) (c := 1) dX2_readNumber_67 rfl (by decide) (by decide) rfl ?_
        refine P_goto (pc := 70) (tgt := 5) dX2_readNumber_70 (by decide) ?_
        refine P_iload_n (pc := 5) dX2_readNumber_5 rfl ?_
        refine P_iconst (pc := 6) (x := nI 2) dX2_readNumber_6 (by decide) ?_
        refine P_icmp_geF (pc := 7) (tgt := 73) dX2_readNumber_7 (by decide) (by decide) ?_
        refine P_aload_n (pc := 10) dX2_readNumber_10 rfl ?_
        refine P_aload_n (pc := 11) dX2_readNumber_11 rfl ?_
        refine P_geti (pc := 12) 2 1 (x := nI ((p + 1))) dX2_readNumber_12 fl_X2_20 sh_3 fi_2_1 (rfl) ?_
        obtain ⟨_, _, _, kl1, rfl, rfl, rfl⟩ := c_letterAt (l := l) (D := D) (tw := tw) (I := (zu I 3 1 (nI (p + 1)))) (hX.rr (zRr.rf).u3) (p := p + 1) (by omega)
        refine P_callV (pc := 15) (S := []) (As := [_]) kl1 dX2_readNumber_15 ok_X7_letterAt ml_X2_33 iv_X7_letterAt ⟨by decide, by decide⟩ (zret_i _) rfl ⟨rfl, by decide⟩ sh_1 ⟨by decide, rfl⟩ (Nat.le_of_ble_eq_true rfl) ?_
        rcases hc1 : zCh tx tn (p + 1) with _ | c1
        · refine P_istore (pc := 18) dX2_readNumber_18 (by decide) rfl ?_
          refine P_iload (pc := 20) dX2_readNumber_20 rfl ?_
          refine P_bipush (pc := 22) (x := nI 48) dX2_readNumber_22 (by decide) ?_
          refine P_icmp_ltT (pc := 24) (tgt := 34) dX2_readNumber_24 (by decide) (by decide) ?_
          refine P_iload_n (pc := 34) dX2_readNumber_34 rfl ?_
          refine P_iret (pc := 35) dX2_readNumber_35 ?_
          have hz : zNum tx tn p = (1, c0 - 48) := zNum_1 (zDg_ok hc0 ⟨by omega, by omega⟩) (zDg_no hc1)
          exact ⟨by rw [hz]; exact congrArg some (congrArg nI (by omega)), rfl, fun a ha => zu_o _ _ ha, rfl, by show _ = nI (p + (zNum tx tn p).1); rw [hz]; exact rfl⟩
        · have hb1 := zCh_lt (fun k hk => (hX.2.2 k hk).2) hc1
          refine P_istore (pc := 18) dX2_readNumber_18 (by decide) rfl ?_
          refine P_iload (pc := 20) dX2_readNumber_20 rfl ?_
          refine P_bipush (pc := 22) (x := nI 48) dX2_readNumber_22 (by decide) ?_
          refine P_icmp_ltN (pc := 24) (tgt := 34) dX2_readNumber_24 (by decide) (by omega) (by omega) (fun h24 => ?_) (fun h24 => ?_)
          · refine P_iload_n (pc := 34) dX2_readNumber_34 rfl ?_
            refine P_iret (pc := 35) dX2_readNumber_35 ?_
            have hz : zNum tx tn p = (1, c0 - 48) := zNum_1 (zDg_ok hc0 ⟨by omega, by omega⟩) (zDg_bad hc1 (by omega))
            exact ⟨by rw [hz]; exact congrArg some (congrArg nI (by omega)), rfl, fun a ha => zu_o _ _ ha, rfl, by show _ = nI (p + (zNum tx tn p).1); rw [hz]; exact rfl⟩
          · refine P_iload (pc := 27) dX2_readNumber_27 rfl ?_
            refine P_bipush (pc := 29) (x := nI 57) dX2_readNumber_29 (by decide) ?_
            refine P_icmp_leN (pc := 31) (tgt := 36) dX2_readNumber_31 (by decide) (by omega) (by omega) (fun h31 => ?_) (fun h31 => ?_)
            · refine P_iload_n (pc := 36) dX2_readNumber_36 rfl ?_
              refine P_bipush (pc := 37) (x := (-4)) dX2_readNumber_37 (by decide) ?_
              refine P_icmp_neT (pc := 39) (tgt := 46) dX2_readNumber_39 (by decide) (zne4 (by omega)) ?_
              refine P_bipush (pc := 46) (x := nI 10) dX2_readNumber_46 (by decide) ?_
              refine P_iload_n (pc := 48) dX2_readNumber_48 rfl ?_
              refine P_imulN (pc := 49) dX2_readNumber_49 ?_
              refine P_iload (pc := 50) dX2_readNumber_50 rfl ?_
              refine P_iaddN (pc := 52) dX2_readNumber_52 ?_
              refine P_bipush (pc := 53) (x := nI 48) dX2_readNumber_53 (by decide) ?_
              refine P_isubN (pc := 55) dX2_readNumber_55 (by omega) ?_
              refine P_istore_n (pc := 56) dX2_readNumber_56 (by decide) rfl ?_
              refine P_aload_n (pc := 57) dX2_readNumber_57 rfl ?_
              refine P_dup (pc := 58) dX2_readNumber_58 rfl ?_
              refine P_geti (pc := 59) 2 1 (x := nI ((p + 1))) dX2_readNumber_59 fl_X2_20 sh_3 fi_2_1 (rfl) ?_
              refine P_iconst (pc := 62) (x := nI 1) dX2_readNumber_62 (by decide) ?_
              refine P_iaddN (pc := 63) dX2_readNumber_63 ?_
              refine P_puti (pc := 64) 2 1 dX2_readNumber_64 fl_X2_20 sh_3 fp_2_1 rfl rfl ?_
              refine P_iincN (pc := 67) (c := 1) dX2_readNumber_67 rfl (by decide) (by decide) rfl ?_
              refine P_goto (pc := 70) (tgt := 5) dX2_readNumber_70 (by decide) ?_
              refine P_iload_n (pc := 5) dX2_readNumber_5 rfl ?_
              refine P_iconst (pc := 6) (x := nI 2) dX2_readNumber_6 (by decide) ?_
              refine P_icmp_geT (pc := 7) (tgt := 73) dX2_readNumber_7 (by decide) (by decide) ?_
              refine P_iload_n (pc := 73) dX2_readNumber_73 rfl ?_
              refine P_iret (pc := 74) dX2_readNumber_74 ?_
              have hz : zNum tx tn p = (2, 10 * (c0 - 48) + (c1 - 48)) := zNum_2 (zDg_ok hc0 ⟨by omega, by omega⟩) (zDg_ok hc1 ⟨by omega, by omega⟩)
              exact ⟨by rw [hz]; exact congrArg some (congrArg nI (by omega)), rfl, fun a ha => (zu_o _ _ ha).trans (zu_o _ _ ha), rfl, by show _ = nI (p + (zNum tx tn p).1); rw [hz]; exact rfl⟩
            · refine P_iload_n (pc := 34) dX2_readNumber_34 rfl ?_
              refine P_iret (pc := 35) dX2_readNumber_35 ?_
              have hz : zNum tx tn p = (1, c0 - 48) := zNum_1 (zDg_ok hc0 ⟨by omega, by omega⟩) (zDg_bad hc1 (by omega))
              exact ⟨by rw [hz]; exact congrArg some (congrArg nI (by omega)), rfl, fun a ha => zu_o _ _ ha, rfl, by show _ = nI (p + (zNum tx tn p).1); rw [hz]; exact rfl⟩
      · refine P_iload_n (pc := 34) dX2_readNumber_34 rfl ?_
        refine P_iret (pc := 35) dX2_readNumber_35 ?_
        have hz : zNum tx tn p = (0, 0) := zNum_0 (zDg_bad hc0 (by omega))
        exact ⟨by rw [hz]; exact rfl, rfl, fun _ _ => rfl, rfl, by show _ = nI (p + (zNum tx tn p).1); rw [hz]; exact hp⟩
