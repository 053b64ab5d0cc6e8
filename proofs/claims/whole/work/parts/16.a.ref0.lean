/-! THE REFERENCE: its memory, in natural numbers -/
def zrA (a : Nat) : Bool := decide (110 ≤ a) && decide (a ≤ 130) && !(a == 125) && !(a == 126) && !(a == 127)
/-- the reference's rows hold the numbers s (but for what a walk writes) -/
def RefV (s : Nat → Nat → Nat) (I : AI) : Prop := ∀ a k, zrA a = true → I a k = nI (s a k)
def RefN (s : Nat → Nat → Nat) : Prop := (∀ k, s 123 k ≤ 10000) ∧ (∀ k, s 124 k ≤ 10000)
theorem zb_t {P : Prop} [Decidable P] (h : P) : nI 1 = zb (decide P) := by rw [decide_eq_true h]; rfl
theorem zb_f {P : Prop} [Decidable P] (h : ¬ P) : nI 0 = zb (decide P) := by rw [decide_eq_false h]; rfl
/-- a street of a shortest way -/
abbrev zOnB (nr fr : Nat → Nat) (c n t : Nat) : Bool := decide (fr (8 * c + t) < 10000 ∧ nr (8 * c + n) < 10000 ∧ nr (8 * c + n) + fr (8 * n + t) = fr (8 * c + t))
/-- an int that is the number of one of n things -/
def zix (c : Int32) (n : Nat) : Bool := decide (0 ≤ c.toInt ∧ c.toInt < (n : Int))
theorem zix_t {c : Int32} {n : Nat} (h : zix c n = true) (hn : n < 2 ^ 31) : ∃ j : Nat, j < n ∧ c = nI j := by
  have h1 : 0 ≤ c.toInt ∧ c.toInt < (n : Int) := by simpa [zix] using h
  exact vp_in_of (vp_in_iff.mpr h1) hn
theorem zix_n {j n : Nat} (hn : j < 2 ^ 31) : zix (nI j) n = decide (j < n) := by
  unfold zix
  rw [nI_toInt hn]
  by_cases h : j < n
  · rw [decide_eq_true h, decide_eq_true (by omega)]
  · rw [decide_eq_false h, decide_eq_false (by omega)]
theorem zix_in {c : Int32} {n : Nat} (hn : n < 2 ^ 30) : decide (nI 0 ≤ c ∧ c ≤ nI n - nI 1) = zix c n := by
  unfold zix
  have e1 : (nI 0).toInt = 0 := rfl
  have e2 : (nI n - nI 1).toInt = (n : Int) - 1 := by rw [pk_sub_toInt hn (by decide)]; rfl
  have e : (nI 0 ≤ c ∧ c ≤ nI n - nI 1) ↔ (0 ≤ c.toInt ∧ c.toInt < (n : Int)) := by
    rw [Int32.le_iff_toInt_le, Int32.le_iff_toInt_le, e1, e2]
    constructor <;> (intro h; omega)
  exact decide_eq_decide.mpr e
theorem zix_in2 {c : Int32} {n m : Nat} (h : m + 1 = n) (hn : n < 2 ^ 30) : decide (nI 0 ≤ c ∧ c ≤ nI m) = zix c n := by
  rw [← zix_in hn, ← h, nI_succ]
  congr 3
  show nI m = nI m + 1 - nI 1
  rw [show nI 1 = (1 : Int32) from rfl]
  simp

set_option maxRecDepth 20000 in
theorem c_in {l : Launch} {D : va_G} {tw : Nat} {I : AI} {x lo hi : Int32} : ZP l D zm_X12_in 0 (zent 3 [.int x, .int lo, .int hi]) [] I (zF tw) (fun v J G => v = some (zb (decide (lo ≤ x ∧ x ≤ hi))) ∧ I = J ∧ G = zF tw) := by
  show ZP _ _ _ _ [some _, some _, some _] _ _ _ _
  refine P_iload_n (pc := 0) dX12_in_0 rfl ?_
  refine P_iload_n (pc := 1) dX12_in_1 rfl ?_
  refine P_icmp_lt (pc := 2) (tgt := 14) dX12_in_2 (by decide) (fun h2 => ?_) (fun h2 => ?_)
  · refine P_iconst (pc := 14) (x := nI 0) dX12_in_14 (by decide) ?_
    exact P_iret (pc := 15) dX12_in_15 (by exact ⟨congrArg some (zb_f (fun z => Int32.not_le.mpr h2 z.1)), rfl, rfl⟩)
  · refine P_iload_n (pc := 5) dX12_in_5 rfl ?_
    refine P_iload_n (pc := 6) dX12_in_6 rfl ?_
    refine P_icmp_gt (pc := 7) (tgt := 14) dX12_in_7 (by decide) (fun h7 => ?_) (fun h7 => ?_)
    · refine P_iconst (pc := 14) (x := nI 0) dX12_in_14 (by decide) ?_
      exact P_iret (pc := 15) dX12_in_15 (by exact ⟨congrArg some (zb_f (fun z => Int32.not_le.mpr h7 z.2)), rfl, rfl⟩)
    · refine P_iconst (pc := 10) (x := nI 1) dX12_in_10 (by decide) ?_
      refine P_goto (pc := 11) (tgt := 15) dX12_in_11 (by decide) ?_
      exact P_iret (pc := 15) dX12_in_15 (by exact ⟨congrArg some (zb_t ⟨Int32.not_lt.mp h2, Int32.not_lt.mp h7⟩), rfl, rfl⟩)
set_option maxRecDepth 20000 in
theorem c_isOnWay {l : Launch} {D : va_G} {tw : Nat} {I : AI} {s : Nat → Nat → Nat} (hR : RefV s I) (hB : RefN s) {c n t : Nat} (hc : c < 8) (hn : n < 8) (ht : t < 8) : ZP l D zm_X12_isOnWay 0 (zent 4 [.ref 109, .int (nI c), .int (nI n), .int (nI t)]) [] I (zF tw) (fun v J G => v = some (zb (zOnB (s 123) (s 124) c n t)) ∧ I = J ∧ G = zF tw) := by
  have e1 := hB.2 (8 * c + t)
  have e2 := hB.1 (8 * c + n)
  have e3 := hB.2 (8 * n + t)
  show ZP _ _ _ _ [some _, some _, some _, some _] _ _ _ _
  refine P_aload_n (pc := 0) dX12_isOnWay_0 rfl ?_
  refine P_getr (pc := 1) 12 21 dX12_isOnWay_1 fl_X12_53 sh_109 fr_12_21 F_109_21 ?_
  refine P_bipush (pc := 4) (x := nI 8) dX12_isOnWay_4 (by decide) ?_
  refine P_iload_n (pc := 6) dX12_isOnWay_6 rfl ?_
  refine P_imulN (pc := 7) dX12_isOnWay_7 ?_
  refine P_iload_n (pc := 8) dX12_isOnWay_8 rfl ?_
  refine P_iaddN (pc := 9) dX12_isOnWay_9 ?_
  refine P_iald (pc := 10) (((8 * c) + t)) (x := nI (s 124 ((8 * c) + t))) dX12_isOnWay_10 sh_124 rfl (by omega) (by decide) (hR 124 _ rfl) ?_
  refine P_sipush (pc := 11) (x := nI 10000) dX12_isOnWay_11 (by decide) ?_
  refine P_icmp_geN (pc := 14) (tgt := 75) dX12_isOnWay_14 (by decide) (by omega) (by omega) (fun h14 => ?_) (fun h14 => ?_)
  · refine P_iconst (pc := 75) (x := nI 0) dX12_isOnWay_75 (by decide) ?_
    refine P_iret (pc := 76) dX12_isOnWay_76 ?_
    first
      | exact ⟨congrArg some (zb_t (by omega)), rfl, rfl⟩
      | exact ⟨congrArg some (zb_f (by omega)), rfl, rfl⟩
  · refine P_aload_n (pc := 17) dX12_isOnWay_17 rfl ?_
    refine P_getr (pc := 18) 12 20 dX12_isOnWay_18 fl_X12_50 sh_109 fr_12_20 F_109_20 ?_
    refine P_bipush (pc := 21) (x := nI 8) dX12_isOnWay_21 (by decide) ?_
    refine P_iload_n (pc := 23) dX12_isOnWay_23 rfl ?_
    refine P_imulN (pc := 24) dX12_isOnWay_24 ?_
    refine P_iload_n (pc := 25) dX12_isOnWay_25 rfl ?_
    refine P_iaddN (pc := 26) dX12_isOnWay_26 ?_
    refine P_iald (pc := 27) (((8 * c) + n)) (x := nI (s 123 ((8 * c) + n))) dX12_isOnWay_27 sh_123 rfl (by omega) (by decide) (hR 123 _ rfl) ?_
    refine P_sipush (pc := 28) (x := nI 10000) dX12_isOnWay_28 (by decide) ?_
    refine P_icmp_geN (pc := 31) (tgt := 75) dX12_isOnWay_31 (by decide) (by omega) (by omega) (fun h31 => ?_) (fun h31 => ?_)
    · refine P_iconst (pc := 75) (x := nI 0) dX12_isOnWay_75 (by decide) ?_
      refine P_iret (pc := 76) dX12_isOnWay_76 ?_
      first
        | exact ⟨congrArg some (zb_t (by omega)), rfl, rfl⟩
        | exact ⟨congrArg some (zb_f (by omega)), rfl, rfl⟩
    · refine P_aload_n (pc := 34) dX12_isOnWay_34 rfl ?_
      refine P_getr (pc := 35) 12 20 dX12_isOnWay_35 fl_X12_50 sh_109 fr_12_20 F_109_20 ?_
      refine P_bipush (pc := 38) (x := nI 8) dX12_isOnWay_38 (by decide) ?_
      refine P_iload_n (pc := 40) dX12_isOnWay_40 rfl ?_
      refine P_imulN (pc := 41) dX12_isOnWay_41 ?_
      refine P_iload_n (pc := 42) dX12_isOnWay_42 rfl ?_
      refine P_iaddN (pc := 43) dX12_isOnWay_43 ?_
      refine P_iald (pc := 44) (((8 * c) + n)) (x := nI (s 123 ((8 * c) + n))) dX12_isOnWay_44 sh_123 rfl (by omega) (by decide) (hR 123 _ rfl) ?_
      refine P_aload_n (pc := 45) dX12_isOnWay_45 rfl ?_
      refine P_getr (pc := 46) 12 21 dX12_isOnWay_46 fl_X12_53 sh_109 fr_12_21 F_109_21 ?_
      refine P_bipush (pc := 49) (x := nI 8) dX12_isOnWay_49 (by decide) ?_
      refine P_iload_n (pc := 51) dX12_isOnWay_51 rfl ?_
      refine P_imulN (pc := 52) dX12_isOnWay_52 ?_
      refine P_iload_n (pc := 53) dX12_isOnWay_53 rfl ?_
      refine P_iaddN (pc := 54) dX12_isOnWay_54 ?_
      refine P_iald (pc := 55) (((8 * n) + t)) (x := nI (s 124 ((8 * n) + t))) dX12_isOnWay_55 sh_124 rfl (by omega) (by decide) (hR 124 _ rfl) ?_
      refine P_iaddN (pc := 56) dX12_isOnWay_56 ?_
      refine P_aload_n (pc := 57) dX12_isOnWay_57 rfl ?_
      refine P_getr (pc := 58) 12 21 dX12_isOnWay_58 fl_X12_53 sh_109 fr_12_21 F_109_21 ?_
      refine P_bipush (pc := 61) (x := nI 8) dX12_isOnWay_61 (by decide) ?_
      refine P_iload_n (pc := 63) dX12_isOnWay_63 rfl ?_
      refine P_imulN (pc := 64) dX12_isOnWay_64 ?_
      refine P_iload_n (pc := 65) dX12_isOnWay_65 rfl ?_
      refine P_iaddN (pc := 66) dX12_isOnWay_66 ?_
      refine P_iald (pc := 67) (((8 * c) + t)) (x := nI (s 124 ((8 * c) + t))) dX12_isOnWay_67 sh_124 rfl (by omega) (by decide) (hR 124 _ rfl) ?_
      refine P_icmp_neN (pc := 68) (tgt := 75) dX12_isOnWay_68 (by decide) (by omega) (by omega) (fun h68 => ?_) (fun h68 => ?_)
      · refine P_iconst (pc := 75) (x := nI 0) dX12_isOnWay_75 (by decide) ?_
        refine P_iret (pc := 76) dX12_isOnWay_76 ?_
        first
          | exact ⟨congrArg some (zb_t (by omega)), rfl, rfl⟩
          | exact ⟨congrArg some (zb_f (by omega)), rfl, rfl⟩
      · refine P_iconst (pc := 71) (x := nI 1) dX12_isOnWay_71 (by decide) ?_
        refine P_goto (pc := 72) (tgt := 76) dX12_isOnWay_72 (by decide) ?_
        refine P_iret (pc := 76) dX12_isOnWay_76 ?_
        first
          | exact ⟨congrArg some (zb_t (by omega)), rfl, rfl⟩
          | exact ⟨congrArg some (zb_f (by omega)), rfl, rfl⟩
set_option maxRecDepth 20000 in
theorem c_isCorner {l : Launch} {D : va_G} {tw : Nat} {I : AI} {s : Nat → Nat → Nat} (hR : RefV s I) {x : Int32} (hn : s 111 0 < 2 ^ 30) : ZP l D zm_X12_isCorner 0 (zent 2 [.ref 109, .int x]) [] I (zF tw) (fun v J G => v = some (zb (zix x (s 111 0))) ∧ I = J ∧ G = zF tw) := by
  show ZP _ _ _ _ [some _, some _] _ _ _ _
  refine P_iload_n (pc := 0) dX12_isCorner_0 rfl ?_
  refine P_iconst (pc := 1) (x := nI 0) dX12_isCorner_1 (by decide) ?_
  refine P_aload_n (pc := 2) dX12_isCorner_2 rfl ?_
  refine P_getr (pc := 3) 12 2 dX12_isCorner_3 fl_X12_13 sh_109 fr_12_2 F_109_2 ?_
  refine P_iconst (pc := 6) (x := nI 0) dX12_isCorner_6 (by decide) ?_
  refine P_iald (pc := 7) (0) (x := nI (s 111 0)) dX12_isCorner_7 sh_111 rfl (by omega) (by decide) (hR 111 _ rfl) ?_
  refine P_iconst (pc := 8) (x := nI 1) dX12_isCorner_8 (by decide) ?_
  refine P_isub (pc := 9) dX12_isCorner_9 ?_
  obtain ⟨_, _, _, k1, rfl, rfl, rfl⟩ := c_in (I := I) (tw := tw) (l := l) (D := D)
  refine P_callS (pc := 10) (S := []) (As := [_, _, _]) k1 dX12_isCorner_10 ok_X12_in ml_X12_94 is_X12_in ⟨by decide, by decide⟩ (zret_b (decide (nI 0 ≤ x ∧ x ≤ nI (s 111 0) - nI 1))) rfl ⟨rfl, by decide⟩ (Nat.le_of_ble_eq_true rfl) ?_
  exact P_iret (pc := 13) dX12_isCorner_13 (by rw [zix_in hn]; exact ⟨rfl, rfl, rfl⟩)
set_option maxRecDepth 20000 in
theorem c_isWalker {l : Launch} {D : va_G} {tw : Nat} {I : AI} {s : Nat → Nat → Nat} (hR : RefV s I) {x : Int32} (hn : s 116 0 < 2 ^ 30) : ZP l D zm_X12_isWalker 0 (zent 2 [.ref 109, .int x]) [] I (zF tw) (fun v J G => v = some (zb (zix x (s 116 0))) ∧ I = J ∧ G = zF tw) := by
  show ZP _ _ _ _ [some _, some _] _ _ _ _
  refine P_iload_n (pc := 0) dX12_isWalker_0 rfl ?_
  refine P_iconst (pc := 1) (x := nI 0) dX12_isWalker_1 (by decide) ?_
  refine P_aload_n (pc := 2) dX12_isWalker_2 rfl ?_
  refine P_getr (pc := 3) 12 7 dX12_isWalker_3 fl_X12_29 sh_109 fr_12_7 F_109_7 ?_
  refine P_iconst (pc := 6) (x := nI 0) dX12_isWalker_6 (by decide) ?_
  refine P_iald (pc := 7) (0) (x := nI (s 116 0)) dX12_isWalker_7 sh_116 rfl (by omega) (by decide) (hR 116 _ rfl) ?_
  refine P_iconst (pc := 8) (x := nI 1) dX12_isWalker_8 (by decide) ?_
  refine P_isub (pc := 9) dX12_isWalker_9 ?_
  obtain ⟨_, _, _, k1, rfl, rfl, rfl⟩ := c_in (I := I) (tw := tw) (l := l) (D := D)
  refine P_callS (pc := 10) (S := []) (As := [_, _, _]) k1 dX12_isWalker_10 ok_X12_in ml_X12_94 is_X12_in ⟨by decide, by decide⟩ (zret_b (decide (nI 0 ≤ x ∧ x ≤ nI (s 116 0) - nI 1))) rfl ⟨rfl, by decide⟩ (Nat.le_of_ble_eq_true rfl) ?_
  exact P_iret (pc := 13) dX12_isWalker_13 (by rw [zix_in hn]; exact ⟨rfl, rfl, rfl⟩)
set_option maxRecDepth 20000 in
theorem c_isSign {l : Launch} {D : va_G} {tw : Nat} {I : AI} {s : Nat → Nat → Nat} (hR : RefV s I) {x : Int32} (hn : s 122 0 < 2 ^ 30) : ZP l D zm_X12_isSign 0 (zent 2 [.ref 109, .int x]) [] I (zF tw) (fun v J G => v = some (zb (zix x (s 122 0))) ∧ I = J ∧ G = zF tw) := by
  show ZP _ _ _ _ [some _, some _] _ _ _ _
  refine P_iload_n (pc := 0) dX12_isSign_0 rfl ?_
  refine P_iconst (pc := 1) (x := nI 0) dX12_isSign_1 (by decide) ?_
  refine P_aload_n (pc := 2) dX12_isSign_2 rfl ?_
  refine P_getr (pc := 3) 12 17 dX12_isSign_3 fl_X12_47 sh_109 fr_12_17 F_109_17 ?_
  refine P_iconst (pc := 6) (x := nI 0) dX12_isSign_6 (by decide) ?_
  refine P_iald (pc := 7) (0) (x := nI (s 122 0)) dX12_isSign_7 sh_122 rfl (by omega) (by decide) (hR 122 _ rfl) ?_
  refine P_iconst (pc := 8) (x := nI 1) dX12_isSign_8 (by decide) ?_
  refine P_isub (pc := 9) dX12_isSign_9 ?_
  obtain ⟨_, _, _, k1, rfl, rfl, rfl⟩ := c_in (I := I) (tw := tw) (l := l) (D := D)
  refine P_callS (pc := 10) (S := []) (As := [_, _, _]) k1 dX12_isSign_10 ok_X12_in ml_X12_94 is_X12_in ⟨by decide, by decide⟩ (zret_b (decide (nI 0 ≤ x ∧ x ≤ nI (s 122 0) - nI 1))) rfl ⟨rfl, by decide⟩ (Nat.le_of_ble_eq_true rfl) ?_
  exact P_iret (pc := 13) dX12_isSign_13 (by rw [zix_in hn]; exact ⟨rfl, rfl, rfl⟩)
