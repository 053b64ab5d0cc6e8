set_option maxRecDepth 20000 in
theorem c_leadsOn_5 {l : Launch} {D : va_G} {tw : Nat} {I : AI} {nc : Nat} {nr fr : Nat → Nat} (hC : CSt nc nr fr I 6 10 19) {h n a : Nat} (hh : h < 8) (hn : n < 8) (ha : a < 8) : ZP l D zm_X6_leadsOn 0 (zent 6 [.ref 6, .int (nI h), .int (nI n), .int (nI a)]) [] I (zF tw) (fun v J G => v = some (zb (zOnB nr fr h n a)) ∧ I = J ∧ G = zF tw) := by
  have b1 := hC.2.2.2.2.1 (8 * h + n) (by omega)
  have b2 := hC.2.2.2.2.2.1 (8 * h + a)
  have b3 := hC.2.2.2.2.2.1 (8 * n + a)
  show ZP _ _ _ _ [some _, some _, some _, some _, none, none] _ _ _ _
  refine P_aload_n (pc := 0) dX6_leadsOn_0 rfl ?_
  refine P_getr (pc := 1) 6 5 dX6_leadsOn_1 fl_X6_23 sh_6 fr_6_5 F_6_5 ?_
  refine P_iload_n (pc := 4) dX6_leadsOn_4 rfl ?_
  refine P_aald (pc := 5) (h) dX6_leadsOn_5 sh_18 (by decide) rfl (by omega) (by decide) (Fr_18 _ (by omega)) ?_
  refine P_iload_n (pc := 6) dX6_leadsOn_6 rfl ?_
  refine P_iald (pc := 7) (a) (x := zds (fr (8 * h + a))) dX6_leadsOn_7 (shr_19 _ (by omega)) rfl (by omega) (by decide) (hC.2.2.2.1 _ _ (by omega) (by omega)) ?_
  refine P_istore (pc := 8) dX6_leadsOn_8 (by decide) rfl ?_
  refine P_aload_n (pc := 10) dX6_leadsOn_10 rfl ?_
  refine P_getr (pc := 11) 6 4 dX6_leadsOn_11 fl_X6_20 sh_6 fr_6_4 F_6_4 ?_
  refine P_iload_n (pc := 14) dX6_leadsOn_14 rfl ?_
  refine P_aald (pc := 15) (h) dX6_leadsOn_15 sh_9 (by decide) rfl (by omega) (by decide) (Fr_9 _ (by omega)) ?_
  refine P_iload_n (pc := 16) dX6_leadsOn_16 rfl ?_
  refine P_iald (pc := 17) (n) (x := nI (zln (nr (8 * h + n)))) dX6_leadsOn_17 (shr_10 _ (by omega)) rfl (by omega) (by decide) (hC.2.2.1 _ _ (by omega) (by omega)) ?_
  refine P_istore (pc := 18) dX6_leadsOn_18 (by decide) rfl ?_
  by_cases e1 : nr (8 * h + n) < 10000
  · have hz1 : zln (nr (8 * h + n)) = nr (8 * h + n) := if_pos e1
    by_cases e2 : fr (8 * h + a) < 10000
    · have hz2 : zds (fr (8 * h + a)) = nI (fr (8 * h + a)) := if_pos e2
      have e3 := hC.2.2.2.2.2.2 h n a hh hn ha e1 e2
      have hz3 : zds (fr (8 * n + a)) = nI (fr (8 * n + a)) := if_pos e3
      rw [hz1, hz2]
      refine P_iload (pc := 20) dX6_leadsOn_20 rfl ?_
      refine P_if_leF (pc := 22) (tgt := 52) dX6_leadsOn_22 (by decide) (by rw [nI_le0 (by omega)]; omega) ?_
      refine P_iload (pc := 25) dX6_leadsOn_25 rfl ?_
      refine P_bipush (pc := 27) (x := (-4)) dX6_leadsOn_27 (by decide) ?_
      refine P_icmp_eqF (pc := 29) (tgt := 52) dX6_leadsOn_29 (by decide) (zne4 (by omega)) ?_
      refine P_iload (pc := 32) dX6_leadsOn_32 rfl ?_
      refine P_iload (pc := 34) dX6_leadsOn_34 rfl ?_
      refine P_aload_n (pc := 36) dX6_leadsOn_36 rfl ?_
      refine P_getr (pc := 37) 6 5 dX6_leadsOn_37 fl_X6_23 sh_6 fr_6_5 F_6_5 ?_
      refine P_iload_n (pc := 40) dX6_leadsOn_40 rfl ?_
      refine P_aald (pc := 41) (n) dX6_leadsOn_41 sh_18 (by decide) rfl (by omega) (by decide) (Fr_18 _ (by omega)) ?_
      refine P_iload_n (pc := 42) dX6_leadsOn_42 rfl ?_
      refine P_iald (pc := 43) (a) (x := nI (fr (8 * n + a))) dX6_leadsOn_43 (shr_19 _ (by omega)) rfl (by omega) (by decide) ((hC.2.2.2.1 _ _ hn ha).trans hz3) ?_
      refine P_iaddN (pc := 44) dX6_leadsOn_44 ?_
      refine P_icmp_neN (pc := 45) (tgt := 52) dX6_leadsOn_45 (by decide) (by omega) (by omega) (fun h45 => ?_) (fun h45 => ?_)
      · refine P_iconst (pc := 52) (x := nI 0) dX6_leadsOn_52 (by decide) ?_
        exact P_iret (pc := 53) dX6_leadsOn_53 (⟨congrArg some (zb_f (by omega)), rfl, rfl⟩)
      · refine P_iconst (pc := 48) (x := nI 1) dX6_leadsOn_48 (by decide) ?_
        refine P_goto (pc := 49) (tgt := 53) dX6_leadsOn_49 (by decide) ?_
        exact P_iret (pc := 53) dX6_leadsOn_53 (⟨congrArg some (zb_t ⟨e2, e1, by omega⟩), rfl, rfl⟩)
    · have hz2 : zds (fr (8 * h + a)) = -4 := if_neg e2
      rw [hz1, hz2]
      refine P_iload (pc := 20) dX6_leadsOn_20 rfl ?_
      refine P_if_leF (pc := 22) (tgt := 52) dX6_leadsOn_22 (by decide) (by rw [nI_le0 (by omega)]; omega) ?_
      refine P_iload (pc := 25) dX6_leadsOn_25 rfl ?_
      refine P_bipush (pc := 27) (x := (-4)) dX6_leadsOn_27 (by decide) ?_
      refine P_icmp_eqT (pc := 29) (tgt := 52) dX6_leadsOn_29 (by decide) (by decide) ?_
      refine P_iconst (pc := 52) (x := nI 0) dX6_leadsOn_52 (by decide) ?_
      exact P_iret (pc := 53) dX6_leadsOn_53 (⟨congrArg some (zb_f (by omega)), rfl, rfl⟩)
  · have hz1 : zln (nr (8 * h + n)) = 0 := if_neg e1
    rw [hz1]
    refine P_iload (pc := 20) dX6_leadsOn_20 rfl ?_
    refine P_if_leT (pc := 22) (tgt := 52) dX6_leadsOn_22 (by decide) (by decide) ?_
    refine P_iconst (pc := 52) (x := nI 0) dX6_leadsOn_52 (by decide) ?_
    exact P_iret (pc := 53) dX6_leadsOn_53 (⟨congrArg some (zb_f (by omega)), rfl, rfl⟩)
set_option maxRecDepth 20000 in
theorem c_towards_5 {l : Launch} {D : va_G} {tw : Nat} {I : AI} {nc : Nat} {nr fr : Nat → Nat} (hC : CSt nc nr fr I 6 10 19) {h a : Nat} (hh : h < 8) (ha : a < 8) : ZP l D zm_X6_towards 0 (zent 4 [.ref 6, .int (nI h), .int (nI a)]) [] I (zF tw) (fun v J G => v = some (zo (-1) (zLo (fun n => zOnB nr fr h n a) nc)) ∧ I = J ∧ G = zF tw) := by
  have hnc := hC.2.1
  have loop : ∀ (d : Nat) (n : Nat), nc - n < d → n ≤ nc → (∀ j, j < n → zOnB nr fr h j a = false) → ZP l D zm_X6_towards 2 [some (.ref 6), some (.int (nI h)), some (.int (nI a)), some (.int (nI n))] [] I (zF tw) (fun v J G => v = some (zo (-1) (zLo (fun n => zOnB nr fr h n a) nc)) ∧ I = J ∧ G = zF tw) := by
    intro d
    induction d with
    | zero =>
      intro n hd
      exact absurd hd (by omega)
    | succ d ih =>
      intro n hd hn hinv
      refine P_iload_n (pc := 2) dX6_towards_2 rfl ?_
      refine P_aload_n (pc := 3) dX6_towards_3 rfl ?_
      refine P_geti (pc := 4) 6 0 (x := nI (nc)) dX6_towards_4 fl_X6_26 sh_6 fi_6_0 (hC.1) ?_
      refine P_icmp_geN (pc := 7) (tgt := 28) dX6_towards_7 (by decide) (by omega) (by omega) (fun h7 => ?_) (fun h7 => ?_)
      · refine P_iconst (pc := 28) (x := (-1)) dX6_towards_28 (by decide) ?_
        exact P_iret (pc := 29) dX6_towards_29 (⟨by rw [zLo_none (P := fun n => zOnB nr fr h n a) (fun j hj => hinv j (by omega))]; rfl, rfl, rfl⟩)
      · refine P_aload_n (pc := 10) dX6_towards_10 rfl ?_
        refine P_iload_n (pc := 11) dX6_towards_11 rfl ?_
        refine P_iload_n (pc := 12) dX6_towards_12 rfl ?_
        refine P_iload_n (pc := 13) dX6_towards_13 rfl ?_
        obtain ⟨_, _, _, k1, rfl, rfl, rfl⟩ := c_leadsOn_5 (l := l) (D := D) (tw := tw) hC (h := h) (n := n) (a := a) hh (by omega) ha
        refine P_callV (pc := 14) (S := []) (As := [_, _, _]) k1 dX6_towards_14 ok_X6_leadsOn ml_X6_43 iv_X6_leadsOn ⟨by decide, by decide⟩ (zret_b (zOnB nr fr h n a)) rfl ⟨rfl, by decide⟩ sh_6 ⟨by decide, rfl⟩ (Nat.le_of_ble_eq_true rfl) ?_
        refine P_if_eqB (pc := 17) (tgt := 22) dX6_towards_17 (by decide) (fun h17 => ?_) (fun h17 => ?_)
        · refine P_iincN (pc := 22) (c := 1) dX6_towards_22 rfl (by decide) (by decide) rfl ?_
          refine P_goto (pc := 25) (tgt := 2) dX6_towards_25 (by decide) ?_
          exact ih (n + 1) (by omega) (by omega) (fun j hj => by
            by_cases e : j < n
            · exact hinv j e
            · rw [show j = n by omega]; exact h17)
        · refine P_iload_n (pc := 20) dX6_towards_20 rfl ?_
          exact P_iret (pc := 21) dX6_towards_21 (⟨by rw [zLo_some (P := fun n => zOnB nr fr h n a) (by omega) h17 hinv]; rfl, rfl, rfl⟩)
  show ZP _ _ _ _ [some _, some _, some _, none] _ _ _ _
  refine P_iconst (pc := 0) (x := nI 0) dX6_towards_0 (by decide) ?_
  refine P_istore_n (pc := 1) dX6_towards_1 (by decide) rfl ?_
  exact loop (nc + 1) 0 (by omega) (by omega) (fun j hj => by omega)
set_option maxRecDepth 20000 in
theorem c_firstBut_5 {l : Launch} {D : va_G} {tw : Nat} {I : AI} {nc : Nat} {nr fr : Nat → Nat} (hC : CSt nc nr fr I 6 10 19) {h : Nat} {cm : Option Nat} (hh : h < 8) (hcm : ∀ m, cm = some m → m < 8) : ZP l D zm_X6_firstBut 0 (zent 4 [.ref 6, .int (nI h), .int (zo (-1) cm)]) [] I (zF tw) (fun v J G => v = some (zo (-1) (zOnF nc nr h cm)) ∧ I = J ∧ G = zF tw) := by
  have hnc := hC.2.1
  have loop : ∀ (d : Nat) (n : Nat), nc - n < d → n ≤ nc → (∀ j, j < n → zSt nr h cm j = false) → ZP l D zm_X6_firstBut 2 [some (.ref 6), some (.int (nI h)), some (.int (zo (-1) cm)), some (.int (nI n))] [] I (zF tw) (fun v J G => v = some (zo (-1) (zOnF nc nr h cm)) ∧ I = J ∧ G = zF tw) := by
    intro d
    induction d with
    | zero =>
      intro n hd
      exact absurd hd (by omega)
    | succ d ih =>
      intro n hd hn hinv
      refine P_iload_n (pc := 2) dX6_firstBut_2 rfl ?_
      refine P_aload_n (pc := 3) dX6_firstBut_3 rfl ?_
      refine P_geti (pc := 4) 6 0 (x := nI (nc)) dX6_firstBut_4 fl_X6_26 sh_6 fi_6_0 (hC.1) ?_
      refine P_icmp_geN (pc := 7) (tgt := 34) dX6_firstBut_7 (by decide) (by omega) (by omega) (fun h7 => ?_) (fun h7 => ?_)
      · refine P_iload_n (pc := 34) dX6_firstBut_34 rfl ?_
        exact P_iret (pc := 35) dX6_firstBut_35 (⟨by unfold zOnF; rw [zLo_none (P := zSt nr h cm) (fun j hj => hinv j (by omega))], rfl, rfl⟩)
      · refine P_iload_n (pc := 10) dX6_firstBut_10 rfl ?_
        refine P_iload_n (pc := 11) dX6_firstBut_11 rfl ?_
        refine P_icmp_eq (pc := 12) (tgt := 28) dX6_firstBut_12 (by decide) (fun h12 => ?_) (fun h12 => ?_)
        · refine P_iincN (pc := 28) (c := 1) dX6_firstBut_28 rfl (by decide) (by decide) rfl ?_
          refine P_goto (pc := 31) (tgt := 2) dX6_firstBut_31 (by decide) ?_
          exact ih (n + 1) (by omega) (by omega) (fun j hj => by
            by_cases e : j < n
            · exact hinv j e
            · rw [show j = n by omega]; exact decide_eq_false (fun z => z.1 ((zo_eq1 (by omega) (fun m e => by have := hcm m e; omega)).mp h12)))
        · have b1 := hC.2.2.2.2.1 (8 * h + n) (by omega)
          have b2 := zln_pos b1.1
          refine P_aload_n (pc := 15) dX6_firstBut_15 rfl ?_
          refine P_getr (pc := 16) 6 4 dX6_firstBut_16 fl_X6_20 sh_6 fr_6_4 F_6_4 ?_
          refine P_iload_n (pc := 19) dX6_firstBut_19 rfl ?_
          refine P_aald (pc := 20) (h) dX6_firstBut_20 sh_9 (by decide) rfl (by omega) (by decide) (Fr_9 _ (by omega)) ?_
          refine P_iload_n (pc := 21) dX6_firstBut_21 rfl ?_
          refine P_iald (pc := 22) (n) (x := nI (zln (nr (8 * h + n)))) dX6_firstBut_22 (shr_10 _ (by omega)) rfl (by omega) (by decide) (hC.2.2.1 _ _ (by omega) (by omega)) ?_
          refine P_if_le (pc := 23) (tgt := 28) dX6_firstBut_23 (by decide) (fun h23 => ?_) (fun h23 => ?_)
          · refine P_iincN (pc := 28) (c := 1) dX6_firstBut_28 rfl (by decide) (by decide) rfl ?_
            refine P_goto (pc := 31) (tgt := 2) dX6_firstBut_31 (by decide) ?_
            exact ih (n + 1) (by omega) (by omega) (fun j hj => by
              by_cases e : j < n
              · exact hinv j e
              · rw [show j = n by omega]; exact decide_eq_false (fun z => by have h9 := (nI_le0 (by omega)).mp h23; omega))
          · refine P_iload_n (pc := 26) dX6_firstBut_26 rfl ?_
            exact P_iret (pc := 27) dX6_firstBut_27 (⟨by unfold zOnF; rw [zLo_some (P := zSt nr h cm) (k := n) (by omega) (decide_eq_true ⟨fun z => h12 ((zo_eq1 (by omega) (fun m e => by have := hcm m e; omega)).mpr z), by have h9 : ¬ zln (nr (8 * h + n)) = 0 := fun z => h23 ((nI_le0 (by omega)).mpr z); exact b2.1.mp (by omega)⟩) hinv]; rfl, rfl, rfl⟩)
  show ZP _ _ _ _ [some _, some _, some _, none] _ _ _ _
  refine P_iconst (pc := 0) (x := nI 0) dX6_firstBut_0 (by decide) ?_
  refine P_istore_n (pc := 1) dX6_firstBut_1 (by decide) rfl ?_
  exact loop (nc + 1) 0 (by omega) (by omega) (fun j hj => by omega)
set_option maxRecDepth 20000 in
theorem c_lastBut_5 {l : Launch} {D : va_G} {tw : Nat} {I : AI} {nc : Nat} {nr fr : Nat → Nat} (hC : CSt nc nr fr I 6 10 19) {h : Nat} {cm : Option Nat} (hh : h < 8) (hn1 : 1 ≤ nc) (hcm : ∀ m, cm = some m → m < 8) : ZP l D zm_X6_lastBut 0 (zent 4 [.ref 6, .int (nI h), .int (zo (-1) cm)]) [] I (zF tw) (fun v J G => v = some (zo (-1) (zOnL nc nr h cm)) ∧ I = J ∧ G = zF tw) := by
  have hnc := hC.2.1
  have loop : ∀ (n : Nat), n ≤ nc → (∀ j, n ≤ j → j < nc → zSt nr h cm j = false) → ZP l D zm_X6_lastBut 7 [some (.ref 6), some (.int (nI h)), some (.int (zo (-1) cm)), some (.int (zPd n))] [] I (zF tw) (fun v J G => v = some (zo (-1) (zOnL nc nr h cm)) ∧ I = J ∧ G = zF tw) := by
    intro n
    induction n with
    | zero =>
      intro hn hinv
      refine P_iload_n (pc := 7) dX6_lastBut_7 rfl ?_
      refine P_if_ltT (pc := 8) (tgt := 35) dX6_lastBut_8 (by decide) (by decide) ?_
      refine P_iload_n (pc := 35) dX6_lastBut_35 rfl ?_
      exact P_iret (pc := 36) dX6_lastBut_36 (⟨by unfold zOnL; rw [zHi_none (P := zSt nr h cm) (fun j hj => hinv j (by omega) hj)], rfl, rfl⟩)
    | succ n ihn =>
      intro hn hinv
      have hnn : n < nc := by omega
      refine P_iload_n (pc := 7) dX6_lastBut_7 rfl ?_
      refine P_if_ltF (pc := 8) (tgt := 35) dX6_lastBut_8 (by decide) (nI_pos (by omega)) ?_
      refine P_iload_n (pc := 11) dX6_lastBut_11 rfl ?_
      refine P_iload_n (pc := 12) dX6_lastBut_12 rfl ?_
      refine P_icmp_eq (pc := 13) (tgt := 29) dX6_lastBut_13 (by decide) (fun h13 => ?_) (fun h13 => ?_)
      · refine P_iinc (pc := 29) (y := zPd n) dX6_lastBut_29 rfl (zPd_s n) (by decide) rfl ?_
        refine P_goto (pc := 32) (tgt := 7) dX6_lastBut_32 (by decide) ?_
        exact ihn (by omega) (fun j hj hj2 => by
          by_cases e : j = n
          · rw [e]; exact decide_eq_false (fun z => z.1 ((zo_eq1 (by omega) (fun m e => by have := hcm m e; omega)).mp h13))
          · exact hinv j (by omega) hj2)
      · have b1 := hC.2.2.2.2.1 (8 * h + n) (by omega)
        have b2 := zln_pos b1.1
        refine P_aload_n (pc := 16) dX6_lastBut_16 rfl ?_
        refine P_getr (pc := 17) 6 4 dX6_lastBut_17 fl_X6_20 sh_6 fr_6_4 F_6_4 ?_
        refine P_iload_n (pc := 20) dX6_lastBut_20 rfl ?_
        refine P_aald (pc := 21) (h) dX6_lastBut_21 sh_9 (by decide) rfl (by omega) (by decide) (Fr_9 _ (by omega)) ?_
        refine P_iload_n (pc := 22) dX6_lastBut_22 rfl ?_
        refine P_iald (pc := 23) (n) (x := nI (zln (nr (8 * h + n)))) dX6_lastBut_23 (shr_10 _ (by omega)) rfl (by omega) (by decide) (hC.2.2.1 _ _ (by omega) (by omega)) ?_
        refine P_if_le (pc := 24) (tgt := 29) dX6_lastBut_24 (by decide) (fun h24 => ?_) (fun h24 => ?_)
        · refine P_iinc (pc := 29) (y := zPd n) dX6_lastBut_29 rfl (zPd_s n) (by decide) rfl ?_
          refine P_goto (pc := 32) (tgt := 7) dX6_lastBut_32 (by decide) ?_
          exact ihn (by omega) (fun j hj hj2 => by
            by_cases e : j = n
            · rw [e]; exact decide_eq_false (fun z => by have h9 := (nI_le0 (by omega)).mp h24; omega)
            · exact hinv j (by omega) hj2)
        · refine P_iload_n (pc := 27) dX6_lastBut_27 rfl ?_
          exact P_iret (pc := 28) dX6_lastBut_28 (⟨by unfold zOnL; rw [zHi_some (P := zSt nr h cm) (k := n) (by omega) (decide_eq_true ⟨fun z => h13 ((zo_eq1 (by omega) (fun m e => by have := hcm m e; omega)).mpr z), by have h9 : ¬ zln (nr (8 * h + n)) = 0 := fun z => h24 ((nI_le0 (by omega)).mpr z); exact b2.1.mp (by omega)⟩) (fun j h1 h2 => hinv j (by omega) h2)]; rfl, rfl, rfl⟩)
  show ZP _ _ _ _ [some _, some _, some _, none] _ _ _ _
  refine P_aload_n (pc := 0) dX6_lastBut_0 rfl ?_
  refine P_geti (pc := 1) 6 0 (x := nI (nc)) dX6_lastBut_1 fl_X6_26 sh_6 fi_6_0 (hC.1) ?_
  refine P_iconst (pc := 4) (x := nI 1) dX6_lastBut_4 (by decide) ?_
  refine P_isubN (pc := 5) dX6_lastBut_5 (by omega) ?_
  refine P_istore_n (pc := 6) dX6_lastBut_6 (by decide) rfl ?_
  have h9 := loop nc (by omega) (fun j h1 h2 => by omega)
  rw [← zPd_p hn1] at h9
  exact h9
set_option maxRecDepth 20000 in
theorem c_leadsOn_36 {l : Launch} {D : va_G} {tw : Nat} {I : AI} {nc : Nat} {nr fr : Nat → Nat} (hC : CSt nc nr fr I 37 41 50) {h n a : Nat} (hh : h < 8) (hn : n < 8) (ha : a < 8) : ZP l D zm_X6_leadsOn 0 (zent 6 [.ref 37, .int (nI h), .int (nI n), .int (nI a)]) [] I (zF tw) (fun v J G => v = some (zb (zOnB nr fr h n a)) ∧ I = J ∧ G = zF tw) := by
  have b1 := hC.2.2.2.2.1 (8 * h + n) (by omega)
  have b2 := hC.2.2.2.2.2.1 (8 * h + a)
  have b3 := hC.2.2.2.2.2.1 (8 * n + a)
  show ZP _ _ _ _ [some _, some _, some _, some _, none, none] _ _ _ _
  refine P_aload_n (pc := 0) dX6_leadsOn_0 rfl ?_
  refine P_getr (pc := 1) 6 5 dX6_leadsOn_1 fl_X6_23 sh_37 fr_6_5 F_37_5 ?_
  refine P_iload_n (pc := 4) dX6_leadsOn_4 rfl ?_
  refine P_aald (pc := 5) (h) dX6_leadsOn_5 sh_49 (by decide) rfl (by omega) (by decide) (Fr_49 _ (by omega)) ?_
  refine P_iload_n (pc := 6) dX6_leadsOn_6 rfl ?_
  refine P_iald (pc := 7) (a) (x := zds (fr (8 * h + a))) dX6_leadsOn_7 (shr_50 _ (by omega)) rfl (by omega) (by decide) (hC.2.2.2.1 _ _ (by omega) (by omega)) ?_
  refine P_istore (pc := 8) dX6_leadsOn_8 (by decide) rfl ?_
  refine P_aload_n (pc := 10) dX6_leadsOn_10 rfl ?_
  refine P_getr (pc := 11) 6 4 dX6_leadsOn_11 fl_X6_20 sh_37 fr_6_4 F_37_4 ?_
  refine P_iload_n (pc := 14) dX6_leadsOn_14 rfl ?_
  refine P_aald (pc := 15) (h) dX6_leadsOn_15 sh_40 (by decide) rfl (by omega) (by decide) (Fr_40 _ (by omega)) ?_
  refine P_iload_n (pc := 16) dX6_leadsOn_16 rfl ?_
  refine P_iald (pc := 17) (n) (x := nI (zln (nr (8 * h + n)))) dX6_leadsOn_17 (shr_41 _ (by omega)) rfl (by omega) (by decide) (hC.2.2.1 _ _ (by omega) (by omega)) ?_
  refine P_istore (pc := 18) dX6_leadsOn_18 (by decide) rfl ?_
  by_cases e1 : nr (8 * h + n) < 10000
  · have hz1 : zln (nr (8 * h + n)) = nr (8 * h + n) := if_pos e1
    by_cases e2 : fr (8 * h + a) < 10000
    · have hz2 : zds (fr (8 * h + a)) = nI (fr (8 * h + a)) := if_pos e2
      have e3 := hC.2.2.2.2.2.2 h n a hh hn ha e1 e2
      have hz3 : zds (fr (8 * n + a)) = nI (fr (8 * n + a)) := if_pos e3
      rw [hz1, hz2]
      refine P_iload (pc := 20) dX6_leadsOn_20 rfl ?_
      refine P_if_leF (pc := 22) (tgt := 52) dX6_leadsOn_22 (by decide) (by rw [nI_le0 (by omega)]; omega) ?_
      refine P_iload (pc := 25) dX6_leadsOn_25 rfl ?_
      refine P_bipush (pc := 27) (x := (-4)) dX6_leadsOn_27 (by decide) ?_
      refine P_icmp_eqF (pc := 29) (tgt := 52) dX6_leadsOn_29 (by decide) (zne4 (by omega)) ?_
      refine P_iload (pc := 32) dX6_leadsOn_32 rfl ?_
      refine P_iload (pc := 34) dX6_leadsOn_34 rfl ?_
      refine P_aload_n (pc := 36) dX6_leadsOn_36 rfl ?_
      refine P_getr (pc := 37) 6 5 dX6_leadsOn_37 fl_X6_23 sh_37 fr_6_5 F_37_5 ?_
      refine P_iload_n (pc := 40) dX6_leadsOn_40 rfl ?_
      refine P_aald (pc := 41) (n) dX6_leadsOn_41 sh_49 (by decide) rfl (by omega) (by decide) (Fr_49 _ (by omega)) ?_
      refine P_iload_n (pc := 42) dX6_leadsOn_42 rfl ?_
      refine P_iald (pc := 43) (a) (x := nI (fr (8 * n + a))) dX6_leadsOn_43 (shr_50 _ (by omega)) rfl (by omega) (by decide) ((hC.2.2.2.1 _ _ hn ha).trans hz3) ?_
      refine P_iaddN (pc := 44) dX6_leadsOn_44 ?_
      refine P_icmp_neN (pc := 45) (tgt := 52) dX6_leadsOn_45 (by decide) (by omega) (by omega) (fun h45 => ?_) (fun h45 => ?_)
      · refine P_iconst (pc := 52) (x := nI 0) dX6_leadsOn_52 (by decide) ?_
        exact P_iret (pc := 53) dX6_leadsOn_53 (⟨congrArg some (zb_f (by omega)), rfl, rfl⟩)
      · refine P_iconst (pc := 48) (x := nI 1) dX6_leadsOn_48 (by decide) ?_
        refine P_goto (pc := 49) (tgt := 53) dX6_leadsOn_49 (by decide) ?_
        exact P_iret (pc := 53) dX6_leadsOn_53 (⟨congrArg some (zb_t ⟨e2, e1, by omega⟩), rfl, rfl⟩)
    · have hz2 : zds (fr (8 * h + a)) = -4 := if_neg e2
      rw [hz1, hz2]
      refine P_iload (pc := 20) dX6_leadsOn_20 rfl ?_
      refine P_if_leF (pc := 22) (tgt := 52) dX6_leadsOn_22 (by decide) (by rw [nI_le0 (by omega)]; omega) ?_
      refine P_iload (pc := 25) dX6_leadsOn_25 rfl ?_
      refine P_bipush (pc := 27) (x := (-4)) dX6_leadsOn_27 (by decide) ?_
      refine P_icmp_eqT (pc := 29) (tgt := 52) dX6_leadsOn_29 (by decide) (by decide) ?_
      refine P_iconst (pc := 52) (x := nI 0) dX6_leadsOn_52 (by decide) ?_
      exact P_iret (pc := 53) dX6_leadsOn_53 (⟨congrArg some (zb_f (by omega)), rfl, rfl⟩)
  · have hz1 : zln (nr (8 * h + n)) = 0 := if_neg e1
    rw [hz1]
    refine P_iload (pc := 20) dX6_leadsOn_20 rfl ?_
    refine P_if_leT (pc := 22) (tgt := 52) dX6_leadsOn_22 (by decide) (by decide) ?_
    refine P_iconst (pc := 52) (x := nI 0) dX6_leadsOn_52 (by decide) ?_
    exact P_iret (pc := 53) dX6_leadsOn_53 (⟨congrArg some (zb_f (by omega)), rfl, rfl⟩)
set_option maxRecDepth 20000 in
theorem c_towards_36 {l : Launch} {D : va_G} {tw : Nat} {I : AI} {nc : Nat} {nr fr : Nat → Nat} (hC : CSt nc nr fr I 37 41 50) {h a : Nat} (hh : h < 8) (ha : a < 8) : ZP l D zm_X6_towards 0 (zent 4 [.ref 37, .int (nI h), .int (nI a)]) [] I (zF tw) (fun v J G => v = some (zo (-1) (zLo (fun n => zOnB nr fr h n a) nc)) ∧ I = J ∧ G = zF tw) := by
  have hnc := hC.2.1
  have loop : ∀ (d : Nat) (n : Nat), nc - n < d → n ≤ nc → (∀ j, j < n → zOnB nr fr h j a = false) → ZP l D zm_X6_towards 2 [some (.ref 37), some (.int (nI h)), some (.int (nI a)), some (.int (nI n))] [] I (zF tw) (fun v J G => v = some (zo (-1) (zLo (fun n => zOnB nr fr h n a) nc)) ∧ I = J ∧ G = zF tw) := by
    intro d
    induction d with
    | zero =>
      intro n hd
      exact absurd hd (by omega)
    | succ d ih =>
      intro n hd hn hinv
      refine P_iload_n (pc := 2) dX6_towards_2 rfl ?_
      refine P_aload_n (pc := 3) dX6_towards_3 rfl ?_
      refine P_geti (pc := 4) 6 0 (x := nI (nc)) dX6_towards_4 fl_X6_26 sh_37 fi_6_0 (hC.1) ?_
      refine P_icmp_geN (pc := 7) (tgt := 28) dX6_towards_7 (by decide) (by omega) (by omega) (fun h7 => ?_) (fun h7 => ?_)
      · refine P_iconst (pc := 28) (x := (-1)) dX6_towards_28 (by decide) ?_
        exact P_iret (pc := 29) dX6_towards_29 (⟨by rw [zLo_none (P := fun n => zOnB nr fr h n a) (fun j hj => hinv j (by omega))]; rfl, rfl, rfl⟩)
      · refine P_aload_n (pc := 10) dX6_towards_10 rfl ?_
        refine P_iload_n (pc := 11) dX6_towards_11 rfl ?_
        refine P_iload_n (pc := 12) dX6_towards_12 rfl ?_
        refine P_iload_n (pc := 13) dX6_towards_13 rfl ?_
        obtain ⟨_, _, _, k1, rfl, rfl, rfl⟩ := c_leadsOn_36 (l := l) (D := D) (tw := tw) hC (h := h) (n := n) (a := a) hh (by omega) ha
        refine P_callV (pc := 14) (S := []) (As := [_, _, _]) k1 dX6_towards_14 ok_X6_leadsOn ml_X6_43 iv_X6_leadsOn ⟨by decide, by decide⟩ (zret_b (zOnB nr fr h n a)) rfl ⟨rfl, by decide⟩ sh_37 ⟨by decide, rfl⟩ (Nat.le_of_ble_eq_true rfl) ?_
        refine P_if_eqB (pc := 17) (tgt := 22) dX6_towards_17 (by decide) (fun h17 => ?_) (fun h17 => ?_)
        · refine P_iincN (pc := 22) (c := 1) dX6_towards_22 rfl (by decide) (by decide) rfl ?_
          refine P_goto (pc := 25) (tgt := 2) dX6_towards_25 (by decide) ?_
          exact ih (n + 1) (by omega) (by omega) (fun j hj => by
            by_cases e : j < n
            · exact hinv j e
            · rw [show j = n by omega]; exact h17)
        · refine P_iload_n (pc := 20) dX6_towards_20 rfl ?_
          exact P_iret (pc := 21) dX6_towards_21 (⟨by rw [zLo_some (P := fun n => zOnB nr fr h n a) (by omega) h17 hinv]; rfl, rfl, rfl⟩)
  show ZP _ _ _ _ [some _, some _, some _, none] _ _ _ _
  refine P_iconst (pc := 0) (x := nI 0) dX6_towards_0 (by decide) ?_
  refine P_istore_n (pc := 1) dX6_towards_1 (by decide) rfl ?_
  exact loop (nc + 1) 0 (by omega) (by omega) (fun j hj => by omega)
set_option maxRecDepth 20000 in
theorem c_firstBut_36 {l : Launch} {D : va_G} {tw : Nat} {I : AI} {nc : Nat} {nr fr : Nat → Nat} (hC : CSt nc nr fr I 37 41 50) {h : Nat} {cm : Option Nat} (hh : h < 8) (hcm : ∀ m, cm = some m → m < 8) : ZP l D zm_X6_firstBut 0 (zent 4 [.ref 37, .int (nI h), .int (zo (-1) cm)]) [] I (zF tw) (fun v J G => v = some (zo (-1) (zOnF nc nr h cm)) ∧ I = J ∧ G = zF tw) := by
  have hnc := hC.2.1
  have loop : ∀ (d : Nat) (n : Nat), nc - n < d → n ≤ nc → (∀ j, j < n → zSt nr h cm j = false) → ZP l D zm_X6_firstBut 2 [some (.ref 37), some (.int (nI h)), some (.int (zo (-1) cm)), some (.int (nI n))] [] I (zF tw) (fun v J G => v = some (zo (-1) (zOnF nc nr h cm)) ∧ I = J ∧ G = zF tw) := by
    intro d
    induction d with
    | zero =>
      intro n hd
      exact absurd hd (by omega)
    | succ d ih =>
      intro n hd hn hinv
      refine P_iload_n (pc := 2) dX6_firstBut_2 rfl ?_
      refine P_aload_n (pc := 3) dX6_firstBut_3 rfl ?_
      refine P_geti (pc := 4) 6 0 (x := nI (nc)) dX6_firstBut_4 fl_X6_26 sh_37 fi_6_0 (hC.1) ?_
      refine P_icmp_geN (pc := 7) (tgt := 34) dX6_firstBut_7 (by decide) (by omega) (by omega) (fun h7 => ?_) (fun h7 => ?_)
      · refine P_iload_n (pc := 34) dX6_firstBut_34 rfl ?_
        exact P_iret (pc := 35) dX6_firstBut_35 (⟨by unfold zOnF; rw [zLo_none (P := zSt nr h cm) (fun j hj => hinv j (by omega))], rfl, rfl⟩)
      · refine P_iload_n (pc := 10) dX6_firstBut_10 rfl ?_
        refine P_iload_n (pc := 11) dX6_firstBut_11 rfl ?_
        refine P_icmp_eq (pc := 12) (tgt := 28) dX6_firstBut_12 (by decide) (fun h12 => ?_) (fun h12 => ?_)
        · refine P_iincN (pc := 28) (c := 1) dX6_firstBut_28 rfl (by decide) (by decide) rfl ?_
          refine P_goto (pc := 31) (tgt := 2) dX6_firstBut_31 (by decide) ?_
          exact ih (n + 1) (by omega) (by omega) (fun j hj => by
            by_cases e : j < n
            · exact hinv j e
            · rw [show j = n by omega]; exact decide_eq_false (fun z => z.1 ((zo_eq1 (by omega) (fun m e => by have := hcm m e; omega)).mp h12)))
        · have b1 := hC.2.2.2.2.1 (8 * h + n) (by omega)
          have b2 := zln_pos b1.1
          refine P_aload_n (pc := 15) dX6_firstBut_15 rfl ?_
          refine P_getr (pc := 16) 6 4 dX6_firstBut_16 fl_X6_20 sh_37 fr_6_4 F_37_4 ?_
          refine P_iload_n (pc := 19) dX6_firstBut_19 rfl ?_
          refine P_aald (pc := 20) (h) dX6_firstBut_20 sh_40 (by decide) rfl (by omega) (by decide) (Fr_40 _ (by omega)) ?_
          refine P_iload_n (pc := 21) dX6_firstBut_21 rfl ?_
          refine P_iald (pc := 22) (n) (x := nI (zln (nr (8 * h + n)))) dX6_firstBut_22 (shr_41 _ (by omega)) rfl (by omega) (by decide) (hC.2.2.1 _ _ (by omega) (by omega)) ?_
          refine P_if_le (pc := 23) (tgt := 28) dX6_firstBut_23 (by decide) (fun h23 => ?_) (fun h23 => ?_)
          · refine P_iincN (pc := 28) (c := 1) dX6_firstBut_28 rfl (by decide) (by decide) rfl ?_
            refine P_goto (pc := 31) (tgt := 2) dX6_firstBut_31 (by decide) ?_
            exact ih (n + 1) (by omega) (by omega) (fun j hj => by
              by_cases e : j < n
              · exact hinv j e
              · rw [show j = n by omega]; exact decide_eq_false (fun z => by have h9 := (nI_le0 (by omega)).mp h23; omega))
          · refine P_iload_n (pc := 26) dX6_firstBut_26 rfl ?_
            exact P_iret (pc := 27) dX6_firstBut_27 (⟨by unfold zOnF; rw [zLo_some (P := zSt nr h cm) (k := n) (by omega) (decide_eq_true ⟨fun z => h12 ((zo_eq1 (by omega) (fun m e => by have := hcm m e; omega)).mpr z), by have h9 : ¬ zln (nr (8 * h + n)) = 0 := fun z => h23 ((nI_le0 (by omega)).mpr z); exact b2.1.mp (by omega)⟩) hinv]; rfl, rfl, rfl⟩)
  show ZP _ _ _ _ [some _, some _, some _, none] _ _ _ _
  refine P_iconst (pc := 0) (x := nI 0) dX6_firstBut_0 (by decide) ?_
  refine P_istore_n (pc := 1) dX6_firstBut_1 (by decide) rfl ?_
  exact loop (nc + 1) 0 (by omega) (by omega) (fun j hj => by omega)
set_option maxRecDepth 20000 in
theorem c_lastBut_36 {l : Launch} {D : va_G} {tw : Nat} {I : AI} {nc : Nat} {nr fr : Nat → Nat} (hC : CSt nc nr fr I 37 41 50) {h : Nat} {cm : Option Nat} (hh : h < 8) (hn1 : 1 ≤ nc) (hcm : ∀ m, cm = some m → m < 8) : ZP l D zm_X6_lastBut 0 (zent 4 [.ref 37, .int (nI h), .int (zo (-1) cm)]) [] I (zF tw) (fun v J G => v = some (zo (-1) (zOnL nc nr h cm)) ∧ I = J ∧ G = zF tw) := by
  have hnc := hC.2.1
  have loop : ∀ (n : Nat), n ≤ nc → (∀ j, n ≤ j → j < nc → zSt nr h cm j = false) → ZP l D zm_X6_lastBut 7 [some (.ref 37), some (.int (nI h)), some (.int (zo (-1) cm)), some (.int (zPd n))] [] I (zF tw) (fun v J G => v = some (zo (-1) (zOnL nc nr h cm)) ∧ I = J ∧ G = zF tw) := by
    intro n
    induction n with
    | zero =>
      intro hn hinv
      refine P_iload_n (pc := 7) dX6_lastBut_7 rfl ?_
      refine P_if_ltT (pc := 8) (tgt := 35) dX6_lastBut_8 (by decide) (by decide) ?_
      refine P_iload_n (pc := 35) dX6_lastBut_35 rfl ?_
      exact P_iret (pc := 36) dX6_lastBut_36 (⟨by unfold zOnL; rw [zHi_none (P := zSt nr h cm) (fun j hj => hinv j (by omega) hj)], rfl, rfl⟩)
    | succ n ihn =>
      intro hn hinv
      have hnn : n < nc := by omega
      refine P_iload_n (pc := 7) dX6_lastBut_7 rfl ?_
      refine P_if_ltF (pc := 8) (tgt := 35) dX6_lastBut_8 (by decide) (nI_pos (by omega)) ?_
      refine P_iload_n (pc := 11) dX6_lastBut_11 rfl ?_
      refine P_iload_n (pc := 12) dX6_lastBut_12 rfl ?_
      refine P_icmp_eq (pc := 13) (tgt := 29) dX6_lastBut_13 (by decide) (fun h13 => ?_) (fun h13 => ?_)
      · refine P_iinc (pc := 29) (y := zPd n) dX6_lastBut_29 rfl (zPd_s n) (by decide) rfl ?_
        refine P_goto (pc := 32) (tgt := 7) dX6_lastBut_32 (by decide) ?_
        exact ihn (by omega) (fun j hj hj2 => by
          by_cases e : j = n
          · rw [e]; exact decide_eq_false (fun z => z.1 ((zo_eq1 (by omega) (fun m e => by have := hcm m e; omega)).mp h13))
          · exact hinv j (by omega) hj2)
      · have b1 := hC.2.2.2.2.1 (8 * h + n) (by omega)
        have b2 := zln_pos b1.1
        refine P_aload_n (pc := 16) dX6_lastBut_16 rfl ?_
        refine P_getr (pc := 17) 6 4 dX6_lastBut_17 fl_X6_20 sh_37 fr_6_4 F_37_4 ?_
        refine P_iload_n (pc := 20) dX6_lastBut_20 rfl ?_
        refine P_aald (pc := 21) (h) dX6_lastBut_21 sh_40 (by decide) rfl (by omega) (by decide) (Fr_40 _ (by omega)) ?_
        refine P_iload_n (pc := 22) dX6_lastBut_22 rfl ?_
        refine P_iald (pc := 23) (n) (x := nI (zln (nr (8 * h + n)))) dX6_lastBut_23 (shr_41 _ (by omega)) rfl (by omega) (by decide) (hC.2.2.1 _ _ (by omega) (by omega)) ?_
        refine P_if_le (pc := 24) (tgt := 29) dX6_lastBut_24 (by decide) (fun h24 => ?_) (fun h24 => ?_)
        · refine P_iinc (pc := 29) (y := zPd n) dX6_lastBut_29 rfl (zPd_s n) (by decide) rfl ?_
          refine P_goto (pc := 32) (tgt := 7) dX6_lastBut_32 (by decide) ?_
          exact ihn (by omega) (fun j hj hj2 => by
            by_cases e : j = n
            · rw [e]; exact decide_eq_false (fun z => by have h9 := (nI_le0 (by omega)).mp h24; omega)
            · exact hinv j (by omega) hj2)
        · refine P_iload_n (pc := 27) dX6_lastBut_27 rfl ?_
          exact P_iret (pc := 28) dX6_lastBut_28 (⟨by unfold zOnL; rw [zHi_some (P := zSt nr h cm) (k := n) (by omega) (decide_eq_true ⟨fun z => h13 ((zo_eq1 (by omega) (fun m e => by have := hcm m e; omega)).mpr z), by have h9 : ¬ zln (nr (8 * h + n)) = 0 := fun z => h24 ((nI_le0 (by omega)).mpr z); exact b2.1.mp (by omega)⟩) (fun j h1 h2 => hinv j (by omega) h2)]; rfl, rfl, rfl⟩)
  show ZP _ _ _ _ [some _, some _, some _, none] _ _ _ _
  refine P_aload_n (pc := 0) dX6_lastBut_0 rfl ?_
  refine P_geti (pc := 1) 6 0 (x := nI (nc)) dX6_lastBut_1 fl_X6_26 sh_37 fi_6_0 (hC.1) ?_
  refine P_iconst (pc := 4) (x := nI 1) dX6_lastBut_4 (by decide) ?_
  refine P_isubN (pc := 5) dX6_lastBut_5 (by omega) ?_
  refine P_istore_n (pc := 6) dX6_lastBut_6 (by decide) rfl ?_
  have h9 := loop nc (by omega) (fun j h1 h2 => by omega)
  rw [← zPd_p hn1] at h9
  exact h9
