set_option maxRecDepth 20000 in
theorem c_nativeStep {l : Launch} {D : va_G} {tw : Nat} {I : AI} {s : Nat → Nat → Nat} (hR : RefV s I) (hB : RefN s) (hnc : s 111 0 ≤ 8) {c a : Nat} (hc : c < 8) (ha : a < 8) : ZP l D zm_X12_nativeStep 0 (zent 4 [.ref 109, .int (nI c), .int (nI a)]) [] I (zF tw) (fun v J G => v = some (zo (-4) (zLo (fun n => zOnB (s 123) (s 124) c n a) (s 111 0))) ∧ I = J ∧ G = zF tw) := by
  have loop : ∀ (d : Nat) (n : Nat), s 111 0 - n < d → n ≤ s 111 0 → (∀ j, j < n → zOnB (s 123) (s 124) c j a = false) → ZP l D zm_X12_nativeStep 2 [some (.ref 109), some (.int (nI c)), some (.int (nI a)), some (.int (nI n))] [] I (zF tw) (fun v J G => v = some (zo (-4) (zLo (fun n => zOnB (s 123) (s 124) c n a) (s 111 0))) ∧ I = J ∧ G = zF tw) := by
    intro d
    induction d with
    | zero =>
      intro n hd
      exact absurd hd (by omega)
    | succ d ih =>
      intro n hd hn hinv
      refine P_iload_n (pc := 2) dX12_nativeStep_2 rfl ?_
      refine P_aload_n (pc := 3) dX12_nativeStep_3 rfl ?_
      refine P_getr (pc := 4) 12 2 dX12_nativeStep_4 fl_X12_13 sh_109 fr_12_2 F_109_2 ?_
      refine P_iconst (pc := 7) (x := nI 0) dX12_nativeStep_7 (by decide) ?_
      refine P_iald (pc := 8) (0) (x := nI (s 111 0)) dX12_nativeStep_8 sh_111 rfl (by omega) (by decide) (hR 111 _ rfl) ?_
      refine P_icmp_geN (pc := 9) (tgt := 30) dX12_nativeStep_9 (by decide) (by omega) (by omega) (fun h9 => ?_) (fun h9 => ?_)
      · refine P_bipush (pc := 30) (x := (-4)) dX12_nativeStep_30 (by decide) ?_
        exact P_iret (pc := 32) dX12_nativeStep_32 (⟨by rw [zLo_none (P := fun n => zOnB (s 123) (s 124) c n a) (fun j hj => hinv j (by omega))]; rfl, rfl, rfl⟩)
      · refine P_aload_n (pc := 12) dX12_nativeStep_12 rfl ?_
        refine P_iload_n (pc := 13) dX12_nativeStep_13 rfl ?_
        refine P_iload_n (pc := 14) dX12_nativeStep_14 rfl ?_
        refine P_iload_n (pc := 15) dX12_nativeStep_15 rfl ?_
        obtain ⟨_, _, _, k1, rfl, rfl, rfl⟩ := c_isOnWay (l := l) (D := D) (tw := tw) hR hB (c := c) (n := n) (t := a) (by omega) (by omega) (by omega)
        refine P_callV (pc := 16) (S := []) (As := [_, _, _]) k1 dX12_nativeStep_16 ok_X12_isOnWay ml_X12_155 iv_X12_isOnWay ⟨by decide, by decide⟩ (zret_b (zOnB (s 123) (s 124) c n a)) rfl ⟨rfl, by decide⟩ sh_109 ⟨by decide, rfl⟩ (Nat.le_of_ble_eq_true rfl) ?_
        refine P_if_eqB (pc := 19) (tgt := 24) dX12_nativeStep_19 (by decide) (fun h19 => ?_) (fun h19 => ?_)
        · refine P_iincN (pc := 24) (c := 1) dX12_nativeStep_24 rfl (by decide) (by decide) rfl ?_
          refine P_goto (pc := 27) (tgt := 2) dX12_nativeStep_27 (by decide) ?_
          exact ih (n + 1) (by omega) (by omega) (fun j hj => by
            by_cases e : j < n
            · exact hinv j e
            · rw [show j = n by omega]; exact h19)
        · refine P_iload_n (pc := 22) dX12_nativeStep_22 rfl ?_
          exact P_iret (pc := 23) dX12_nativeStep_23 (⟨by rw [zLo_some (P := fun n => zOnB (s 123) (s 124) c n a) (by omega) h19 hinv]; rfl, rfl, rfl⟩)
  show ZP _ _ _ _ [some _, some _, some _, none] _ _ _ _
  refine P_iconst (pc := 0) (x := nI 0) dX12_nativeStep_0 (by decide) ?_
  refine P_istore_n (pc := 1) dX12_nativeStep_1 (by decide) rfl ?_
  exact loop (s 111 0 + 1) 0 (by omega) (by omega) (fun j hj => by omega)
/-- the choice of one kind among corners in order: the first, or the last -/
def zPick (b : Bool) (P : Nat → Bool) (n : Nat) : Option Nat := if b = true then zHi P n else zLo P n
/-- what the reference has found behind k corners: of those with number below k (last), or not below nc - k (first) -/
def zFd (b : Bool) (nc : Nat) (P : Nat → Bool) (k : Nat) (f : Option Nat) : Prop := if b = true then f = zHi P k else (f = none ∧ (∀ j, nc - k ≤ j → j < nc → P j = false)) ∨ ∃ n, f = some n ∧ nc - k ≤ n ∧ n < nc ∧ P n = true ∧ ∀ j, nc - k ≤ j → j < n → P j = false
theorem zFd_0 {b : Bool} {nc : Nat} {P : Nat → Bool} : zFd b nc P 0 none := by
  unfold zFd
  cases b
  · exact Or.inl ⟨rfl, fun j h1 h2 => by omega⟩
  · rfl
theorem zFd_s {b : Bool} {nc k n : Nat} {P : Nat → Bool} {f g : Option Nat} (h : zFd b nc P k f) (hk : k < nc) (hn : n = if b = true then k else nc - 1 - k) (hg : g = if P n = true then some n else f) : zFd b nc P (k + 1) g := by
  unfold zFd at h ⊢
  cases b
  · simp only [Bool.false_eq_true, if_false] at h hn ⊢
    by_cases hp : P n = true
    · rw [if_pos hp] at hg
      refine Or.inr ⟨n, hg, by omega, by omega, hp, fun j h1 h2 => by omega⟩
    · rw [if_neg hp] at hg
      rcases h with ⟨h1, h2⟩ | ⟨m, h1, h2, h3, h4, h5⟩
      · refine Or.inl ⟨by rw [hg, h1], fun j h3 h4 => ?_⟩
        by_cases e : j = n
        · rw [e]; simpa using hp
        · exact h2 j (by omega) h4
      · refine Or.inr ⟨m, by rw [hg, h1], by omega, h3, h4, fun j h6 h7 => ?_⟩
        by_cases e : j = n
        · rw [e]; simpa using hp
        · exact h5 j (by omega) h7
  · simp only [if_true] at h hn ⊢
    subst hn
    rw [hg, h]
    rfl
theorem zFd_e {b : Bool} {nc : Nat} {P : Nat → Bool} {f : Option Nat} (h : zFd b nc P nc f) : f = zPick b P nc := by
  unfold zFd at h
  unfold zPick
  cases b
  · simp only [Bool.false_eq_true, if_false] at h ⊢
    rcases h with ⟨h1, h2⟩ | ⟨m, h1, h2, h3, h4, h5⟩
    · rw [h1, zLo_none (fun j hj => h2 j (by omega) hj)]
    · rw [h1, zLo_some h3 h4 (fun j hj => h5 j (by omega) hj)]
  · simp only [if_true] at h ⊢
    exact h
theorem zFd_lt {b : Bool} {nc k : Nat} {P : Nat → Bool} {f : Option Nat} (hk : k ≤ nc) (h : zFd b nc P k f) : ∀ n, f = some n → n < nc := by
  intro n e
  unfold zFd at h
  cases b
  · simp only [Bool.false_eq_true, if_false] at h
    rcases h with ⟨h1, h2⟩ | ⟨m, h1, h2, h3, h4, h5⟩
    · rw [h1] at e; cases e
    · rw [h1] at e; cases e; exact h3
  · simp only [if_true] at h
    rw [h] at e
    have := zHi_lt e
    omega
def zOnX (b : Bool) (nc : Nat) (nr : Nat → Nat) (c : Nat) (cm : Option Nat) : Option Nat := match zPick b (zSt nr c cm) nc with
  | some n => some n
  | none => cm
theorem zo_eq1 {n : Nat} {cm : Option Nat} (hn : n < 2 ^ 31) (hcm : ∀ m, cm = some m → m < 2 ^ 31) : nI n = zo (-1) cm ↔ some n = cm := by
  cases cm with
  | none => exact ⟨fun h => absurd h (zne1 hn), fun h => by cases h⟩
  | some m =>
    show nI n = nI m ↔ some n = some m
    rw [nI_eq hn (hcm m rfl)]
    exact ⟨fun h => by rw [h], fun h => by cases h; rfl⟩
set_option maxRecDepth 20000 in
theorem c_onFrom {l : Launch} {D : va_G} {tw : Nat} {I : AI} {s : Nat → Nat → Nat} (hR : RefV s I) (hB : RefN s) (hnc : s 111 0 ≤ 8) {c : Nat} {cm : Option Nat} {b : Bool} (hc : c < 8) (hcm : ∀ m, cm = some m → m < 8 ∧ s 123 (8 * c + m) < 10000) : ZP l D zm_X12_onFrom 0 (zent 7 [.ref 109, .int (nI c), .int (zo (-1) cm), .int (zb b)]) [] I (zF tw) (fun v J G => v = some (zo (-4) (zOnX b (s 111 0) (s 123) c cm)) ∧ I = J ∧ G = zF tw) := by
  have loop : ∀ (d : Nat) (k : Nat) (f : Option Nat) (v6 : Option Value), s 111 0 - k < d → k ≤ s 111 0 → zFd b (s 111 0) (zSt (s 123) c cm) k f → ZP l D zm_X12_onFrom 7 [some (.ref 109), some (.int (nI c)), some (.int (zo (-1) cm)), some (.int (zb b)), some (.int (zo (-4) f)), some (.int (nI k)), v6] [] I (zF tw) (fun v J G => v = some (zo (-4) (zOnX b (s 111 0) (s 123) c cm)) ∧ I = J ∧ G = zF tw) := by
    intro d
    induction d with
    | zero =>
      intro k f v6 hd
      exact absurd hd (by omega)
    | succ d ih =>
      intro k f v6 hd hn hf
      refine P_iload (pc := 7) dX12_onFrom_7 rfl ?_
      refine P_aload_n (pc := 9) dX12_onFrom_9 rfl ?_
      refine P_getr (pc := 10) 12 2 dX12_onFrom_10 fl_X12_13 sh_109 fr_12_2 F_109_2 ?_
      refine P_iconst (pc := 13) (x := nI 0) dX12_onFrom_13 (by decide) ?_
      refine P_iald (pc := 14) (0) (x := nI (s 111 0)) dX12_onFrom_14 sh_111 rfl (by first | omega | (have := hB.1 (8 * c + k); omega) | (have := hB.1 (8 * c + (s 111 0 - 1 - k)); omega)) (by decide) (hR 111 _ rfl) ?_
      refine P_icmp_geN (pc := 15) (tgt := 79) dX12_onFrom_15 (by decide) (by first | omega | (have := hB.1 (8 * c + k); omega) | (have := hB.1 (8 * c + (s 111 0 - 1 - k)); omega)) (by first | omega | (have := hB.1 (8 * c + k); omega) | (have := hB.1 (8 * c + (s 111 0 - 1 - k)); omega)) (fun h15 => ?_) (fun h15 => ?_)
      · have hk : k = s 111 0 := by omega
        have hfe := zFd_e (hk ▸ hf)
        have hfl := zFd_lt hn hf
        unfold zOnX
        rw [← hfe]
        cases f with
        | some n =>
          have hnl := hfl n rfl
          refine P_iload (pc := 79) dX12_onFrom_79 rfl ?_
          refine P_bipush (pc := 81) (x := (-4)) dX12_onFrom_81 (by decide) ?_
          refine P_icmp_neT (pc := 83) (tgt := 120) dX12_onFrom_83 (by decide) (zne4 (by first | omega | (have := hB.1 (8 * c + k); omega) | (have := hB.1 (8 * c + (s 111 0 - 1 - k)); omega))) ?_
          refine P_iload (pc := 120) dX12_onFrom_120 rfl ?_
          exact P_iret (pc := 122) dX12_onFrom_122 (⟨rfl, rfl, rfl⟩)
        | none =>
          cases cm with
          | none =>
            refine P_iload (pc := 79) dX12_onFrom_79 rfl ?_
            refine P_bipush (pc := 81) (x := (-4)) dX12_onFrom_81 (by decide) ?_
            refine P_icmp_neF (pc := 83) (tgt := 120) dX12_onFrom_83 (by decide) (by decide) ?_
            refine P_iload_n (pc := 86) dX12_onFrom_86 rfl ?_
            refine P_iconst (pc := 87) (x := (-1)) dX12_onFrom_87 (by decide) ?_
            refine P_icmp_eqT (pc := 88) (tgt := 120) dX12_onFrom_88 (by decide) (by decide) ?_
            refine P_iload (pc := 120) dX12_onFrom_120 rfl ?_
            exact P_iret (pc := 122) dX12_onFrom_122 (⟨rfl, rfl, rfl⟩)
          | some m =>
            have hml := hcm m rfl
            refine P_iload (pc := 79) dX12_onFrom_79 rfl ?_
            refine P_bipush (pc := 81) (x := (-4)) dX12_onFrom_81 (by decide) ?_
            refine P_icmp_neF (pc := 83) (tgt := 120) dX12_onFrom_83 (by decide) (by decide) ?_
            refine P_iload_n (pc := 86) dX12_onFrom_86 rfl ?_
            refine P_iconst (pc := 87) (x := (-1)) dX12_onFrom_87 (by decide) ?_
            refine P_icmp_eqF (pc := 88) (tgt := 120) dX12_onFrom_88 (by decide) (zne1 (by first | omega | (have := hB.1 (8 * c + m); omega))) ?_
            refine P_aload_n (pc := 91) dX12_onFrom_91 rfl ?_
            refine P_getr (pc := 92) 12 20 dX12_onFrom_92 fl_X12_50 sh_109 fr_12_20 F_109_20 ?_
            refine P_bipush (pc := 95) (x := nI 8) dX12_onFrom_95 (by decide) ?_
            refine P_iload_n (pc := 97) dX12_onFrom_97 rfl ?_
            refine P_imulN (pc := 98) dX12_onFrom_98 ?_
            refine P_iload_n (pc := 99) dX12_onFrom_99 rfl ?_
            refine P_if_geT (pc := 100) (tgt := 107) dX12_onFrom_100 (by decide) (nI_pos' (by first | omega | (have := hB.1 (8 * c + m); omega))) ?_
            refine P_iload_n (pc := 107) dX12_onFrom_107 rfl ?_
            refine P_iaddN (pc := 108) dX12_onFrom_108 ?_
            refine P_iald (pc := 109) (((8 * c) + m)) (x := nI (s 123 ((8 * c) + m))) dX12_onFrom_109 sh_123 rfl (by first | omega | (have := hB.1 (8 * c + m); omega)) (by decide) (hR 123 _ rfl) ?_
            refine P_sipush (pc := 110) (x := nI 10000) dX12_onFrom_110 (by decide) ?_
            refine P_icmp_geF (pc := 113) (tgt := 120) dX12_onFrom_113 (by decide) (by rw [show nI 10000 = nI 10000 from rfl, nI_leI (by omega) (by omega)]; omega) ?_
            refine P_iload_n (pc := 116) dX12_onFrom_116 rfl ?_
            refine P_goto (pc := 117) (tgt := 122) dX12_onFrom_117 (by decide) ?_
            exact P_iret (pc := 122) dX12_onFrom_122 (⟨rfl, rfl, rfl⟩)
      · refine P_iload_n (pc := 18) dX12_onFrom_18 rfl ?_
        refine P_if_eqB (pc := 19) (tgt := 27) dX12_onFrom_19 (by decide) (fun h19 => ?_) (fun h19 => ?_)
        · refine P_aload_n (pc := 27) dX12_onFrom_27 rfl ?_
          refine P_getr (pc := 28) 12 2 dX12_onFrom_28 fl_X12_13 sh_109 fr_12_2 F_109_2 ?_
          refine P_iconst (pc := 31) (x := nI 0) dX12_onFrom_31 (by decide) ?_
          refine P_iald (pc := 32) (0) (x := nI (s 111 0)) dX12_onFrom_32 sh_111 rfl (by first | omega | (have := hB.1 (8 * c + k); omega) | (have := hB.1 (8 * c + (s 111 0 - 1 - k)); omega)) (by decide) (hR 111 _ rfl) ?_
          refine P_iconst (pc := 33) (x := nI 1) dX12_onFrom_33 (by decide) ?_
          refine P_isubN (pc := 34) dX12_onFrom_34 (by first | omega | (have := hB.1 (8 * c + k); omega) | (have := hB.1 (8 * c + (s 111 0 - 1 - k)); omega)) ?_
          refine P_iload (pc := 35) dX12_onFrom_35 rfl ?_
          refine P_isubN (pc := 37) dX12_onFrom_37 (by first | omega | (have := hB.1 (8 * c + k); omega) | (have := hB.1 (8 * c + (s 111 0 - 1 - k)); omega)) ?_
          refine P_istore (pc := 38) dX12_onFrom_38 (by decide) rfl ?_
          refine P_iload (pc := 40) dX12_onFrom_40 rfl ?_
          refine P_iload_n (pc := 42) dX12_onFrom_42 rfl ?_
          refine P_sel2 (pc := 43) (zo (-4) (if zSt (s 123) c cm ((((s 111 0) - 1) - k)) = true then some ((((s 111 0) - 1) - k)) else f)) 71 (fun k71_43 => ?_) ?_
          · refine P_icmp_eq (pc := 43) (tgt := 69) dX12_onFrom_43 (by decide) (fun h43 => ?_) (fun h43 => ?_)
            · refine P_iload (pc := 69) dX12_onFrom_69 rfl ?_
              exact k71_43 _ (by
                first
                  | (rw [if_pos (decide_eq_true ⟨fun z => h43 ((zo_eq1 (by omega) (fun m e => by have := hcm m e; omega)).mpr z), by omega⟩)]; rfl)
                  | (rw [if_neg (by simp only [decide_eq_true_eq]; intro z; first | exact z.1 ((zo_eq1 (by omega) (fun m e => by have := hcm m e; omega)).mp h43) | omega)]))
            · refine P_aload_n (pc := 46) dX12_onFrom_46 rfl ?_
              refine P_getr (pc := 47) 12 20 dX12_onFrom_47 fl_X12_50 sh_109 fr_12_20 F_109_20 ?_
              refine P_bipush (pc := 50) (x := nI 8) dX12_onFrom_50 (by decide) ?_
              refine P_iload_n (pc := 52) dX12_onFrom_52 rfl ?_
              refine P_imulN (pc := 53) dX12_onFrom_53 ?_
              refine P_iload (pc := 54) dX12_onFrom_54 rfl ?_
              refine P_iaddN (pc := 56) dX12_onFrom_56 ?_
              refine P_iald (pc := 57) (((8 * c) + (((s 111 0) - 1) - k))) (x := nI (s 123 ((8 * c) + (((s 111 0) - 1) - k)))) dX12_onFrom_57 sh_123 rfl (by first | omega | (have := hB.1 (8 * c + k); omega) | (have := hB.1 (8 * c + (s 111 0 - 1 - k)); omega)) (by decide) (hR 123 _ rfl) ?_
              refine P_sipush (pc := 58) (x := nI 10000) dX12_onFrom_58 (by decide) ?_
              refine P_icmp_geN (pc := 61) (tgt := 69) dX12_onFrom_61 (by decide) (by first | omega | (have := hB.1 (8 * c + k); omega) | (have := hB.1 (8 * c + (s 111 0 - 1 - k)); omega)) (by first | omega | (have := hB.1 (8 * c + k); omega) | (have := hB.1 (8 * c + (s 111 0 - 1 - k)); omega)) (fun h61 => ?_) (fun h61 => ?_)
              · refine P_iload (pc := 69) dX12_onFrom_69 rfl ?_
                exact k71_43 _ (by
                  first
                    | (rw [if_pos (decide_eq_true ⟨fun z => h43 ((zo_eq1 (by omega) (fun m e => by have := hcm m e; omega)).mpr z), by omega⟩)]; rfl)
                    | (rw [if_neg (by simp only [decide_eq_true_eq]; intro z; first | exact z.1 ((zo_eq1 (by omega) (fun m e => by have := hcm m e; omega)).mp h43) | omega)]))
              · refine P_iload (pc := 64) dX12_onFrom_64 rfl ?_
                refine P_goto (pc := 66) (tgt := 71) dX12_onFrom_66 (by decide) ?_
                exact k71_43 _ (by
                  first
                    | (rw [if_pos (decide_eq_true ⟨fun z => h43 ((zo_eq1 (by omega) (fun m e => by have := hcm m e; omega)).mpr z), by omega⟩)]; rfl)
                    | (rw [if_neg (by simp only [decide_eq_true_eq]; intro z; first | exact z.1 ((zo_eq1 (by omega) (fun m e => by have := hcm m e; omega)).mp h43) | omega)]))
          · refine P_istore (pc := 71) dX12_onFrom_71 (by decide) rfl ?_
            refine P_iincN (pc := 73) (c := 1) dX12_onFrom_73 rfl (by decide) (by decide) rfl ?_
            refine P_goto (pc := 76) (tgt := 7) dX12_onFrom_76 (by decide) ?_
            exact ih (k + 1) _ _ (by omega) (by omega) (zFd_s hf (by omega) (n := (((s 111 0) - 1) - k)) (by rw [h19]; simp) rfl)
        · refine P_iload (pc := 22) dX12_onFrom_22 rfl ?_
          refine P_goto (pc := 24) (tgt := 38) dX12_onFrom_24 (by decide) ?_
          refine P_istore (pc := 38) dX12_onFrom_38 (by decide) rfl ?_
          refine P_iload (pc := 40) dX12_onFrom_40 rfl ?_
          refine P_iload_n (pc := 42) dX12_onFrom_42 rfl ?_
          refine P_sel2 (pc := 43) (zo (-4) (if zSt (s 123) c cm (k) = true then some (k) else f)) 71 (fun k71_43 => ?_) ?_
          · refine P_icmp_eq (pc := 43) (tgt := 69) dX12_onFrom_43 (by decide) (fun h43 => ?_) (fun h43 => ?_)
            · refine P_iload (pc := 69) dX12_onFrom_69 rfl ?_
              exact k71_43 _ (by
                first
                  | (rw [if_pos (decide_eq_true ⟨fun z => h43 ((zo_eq1 (by omega) (fun m e => by have := hcm m e; omega)).mpr z), by omega⟩)]; rfl)
                  | (rw [if_neg (by simp only [decide_eq_true_eq]; intro z; first | exact z.1 ((zo_eq1 (by omega) (fun m e => by have := hcm m e; omega)).mp h43) | omega)]))
            · refine P_aload_n (pc := 46) dX12_onFrom_46 rfl ?_
              refine P_getr (pc := 47) 12 20 dX12_onFrom_47 fl_X12_50 sh_109 fr_12_20 F_109_20 ?_
              refine P_bipush (pc := 50) (x := nI 8) dX12_onFrom_50 (by decide) ?_
              refine P_iload_n (pc := 52) dX12_onFrom_52 rfl ?_
              refine P_imulN (pc := 53) dX12_onFrom_53 ?_
              refine P_iload (pc := 54) dX12_onFrom_54 rfl ?_
              refine P_iaddN (pc := 56) dX12_onFrom_56 ?_
              refine P_iald (pc := 57) (((8 * c) + k)) (x := nI (s 123 ((8 * c) + k))) dX12_onFrom_57 sh_123 rfl (by first | omega | (have := hB.1 (8 * c + k); omega) | (have := hB.1 (8 * c + (s 111 0 - 1 - k)); omega)) (by decide) (hR 123 _ rfl) ?_
              refine P_sipush (pc := 58) (x := nI 10000) dX12_onFrom_58 (by decide) ?_
              refine P_icmp_geN (pc := 61) (tgt := 69) dX12_onFrom_61 (by decide) (by first | omega | (have := hB.1 (8 * c + k); omega) | (have := hB.1 (8 * c + (s 111 0 - 1 - k)); omega)) (by first | omega | (have := hB.1 (8 * c + k); omega) | (have := hB.1 (8 * c + (s 111 0 - 1 - k)); omega)) (fun h61 => ?_) (fun h61 => ?_)
              · refine P_iload (pc := 69) dX12_onFrom_69 rfl ?_
                exact k71_43 _ (by
                  first
                    | (rw [if_pos (decide_eq_true ⟨fun z => h43 ((zo_eq1 (by omega) (fun m e => by have := hcm m e; omega)).mpr z), by omega⟩)]; rfl)
                    | (rw [if_neg (by simp only [decide_eq_true_eq]; intro z; first | exact z.1 ((zo_eq1 (by omega) (fun m e => by have := hcm m e; omega)).mp h43) | omega)]))
              · refine P_iload (pc := 64) dX12_onFrom_64 rfl ?_
                refine P_goto (pc := 66) (tgt := 71) dX12_onFrom_66 (by decide) ?_
                exact k71_43 _ (by
                  first
                    | (rw [if_pos (decide_eq_true ⟨fun z => h43 ((zo_eq1 (by omega) (fun m e => by have := hcm m e; omega)).mpr z), by omega⟩)]; rfl)
                    | (rw [if_neg (by simp only [decide_eq_true_eq]; intro z; first | exact z.1 ((zo_eq1 (by omega) (fun m e => by have := hcm m e; omega)).mp h43) | omega)]))
          · refine P_istore (pc := 71) dX12_onFrom_71 (by decide) rfl ?_
            refine P_iincN (pc := 73) (c := 1) dX12_onFrom_73 rfl (by decide) (by decide) rfl ?_
            refine P_goto (pc := 76) (tgt := 7) dX12_onFrom_76 (by decide) ?_
            exact ih (k + 1) _ _ (by omega) (by omega) (zFd_s hf (by omega) (n := k) (by rw [h19]; simp) rfl)
  show ZP _ _ _ _ [some _, some _, some _, some _, none, none, none] _ _ _ _
  refine P_bipush (pc := 0) (x := (-4)) dX12_onFrom_0 (by decide) ?_
  refine P_istore (pc := 2) dX12_onFrom_2 (by decide) rfl ?_
  refine P_iconst (pc := 4) (x := nI 0) dX12_onFrom_4 (by decide) ?_
  refine P_istore (pc := 5) dX12_onFrom_5 (by decide) rfl ?_
  exact loop (s 111 0 + 1) 0 none none (by omega) (by omega) zFd_0
