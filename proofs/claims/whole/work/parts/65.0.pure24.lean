/-! PURE: signs on trial, as the block at 352 says -/
theorem tr_cut {s : Nat → Nat → Nat} {I : AI} {k : Nat} (hm : s 122 0 ≤ 8) (hk : k < s 122 0) (h : CSg (s 122 0 - 1) (delN (sgC s 0) k) (delN (sgT s 0) k) (delN (sgN s 0) k) I 70) : CSg (sT s (gCut s k) 122 352) (sgC (sT s (gCut s k)) 352) (sgT (sT s (gCut s k)) 352) (sgN (sT s (gCut s k)) 352) I 70 := by
  have e : sT s (gCut s k) 122 352 = s 122 0 - 1 := gCut_c (k := k)
  rw [e]
  refine CSg.c h (fun j hj => ?_)
  show gCut s k (352 + 1 + 3 * j) = _ ∧ gCut s k (352 + 1 + 3 * j + 1) = _ ∧ gCut s k (352 + 1 + 3 * j + 2) = _
  rw [gCut_j (by omega) (by omega) hm, gCut_j (by omega) (by omega) hm, gCut_j (by omega) (by omega) hm]
  unfold delN
  by_cases e2 : j < k
  · rw [if_neg (by omega), if_pos e2, if_neg (by omega), if_pos e2, if_neg (by omega), if_pos e2]
    exact ⟨congrArg (s 122) (by omega), congrArg (s 122) (by omega), congrArg (s 122) (by omega)⟩
  · rw [if_pos (by omega), if_neg e2, if_pos (by omega), if_neg e2, if_pos (by omega), if_neg e2]
    exact ⟨congrArg (s 122) (by omega), congrArg (s 122) (by omega), congrArg (s 122) (by omega)⟩
theorem tr_put {s : Nat → Nat → Nat} {I : AI} {c t n : Nat} (hm : s 122 0 ≤ 8) (h : CSg (s 122 0 + 1) (insN (sgC s 0) (s 122 0) c) (insN (sgT s 0) (s 122 0) t) (insN (sgN s 0) (s 122 0) n) I 70) : CSg (sT s (gPut s c t n) 122 352) (sgC (sT s (gPut s c t n)) 352) (sgT (sT s (gPut s c t n)) 352) (sgN (sT s (gPut s c t n)) 352) I 70 := by
  have e : sT s (gPut s c t n) 122 352 = s 122 0 + 1 := gPut_c (c := c) (t := t) (n := n)
  rw [e]
  refine CSg.c h (fun j hj => ?_)
  show gPut s c t n (352 + 1 + 3 * j) = _ ∧ gPut s c t n (352 + 1 + 3 * j + 1) = _ ∧ gPut s c t n (352 + 1 + 3 * j + 2) = _
  unfold insN
  by_cases e2 : j < s 122 0
  · rw [if_pos e2, if_pos e2, if_pos e2, gPut_o (by omega) (by omega) (by omega) (by omega), gPut_o (by omega) (by omega) (by omega) (by omega), gPut_o (by omega) (by omega) (by omega) (by omega)]
    refine ⟨?_, ?_, ?_⟩
    · rw [show 352 + 1 + 3 * j = 352 + (1 + 3 * j) by omega, zCopy_in (by omega)] <;> exact congrArg (s 122) (by omega)
    · rw [show 352 + 1 + 3 * j + 1 = 352 + (1 + 3 * j + 1) by omega, zCopy_in (by omega)] <;> exact congrArg (s 122) (by omega)
    · rw [show 352 + 1 + 3 * j + 2 = 352 + (1 + 3 * j + 2) by omega, zCopy_in (by omega)] <;> exact congrArg (s 122) (by omega)
  · have e3 : j = s 122 0 := by omega
    rw [if_neg e2, if_neg e2, if_neg e2, if_pos e3, if_pos e3, if_pos e3, e3]
    exact gPut_1
theorem gPut_t {s : Nat → Nat → Nat} {c t n i : Nat} (hm : s 122 0 ≤ 8) (hi : i < 4) : gPut s c t n (352 + 28 + i) = s 122 (28 + i) := by
  rw [gPut_o (by omega) (by omega) (by omega) (by omega), show 352 + 28 + i = 352 + (28 + i) by omega, zCopy_in (by omega)]
theorem delins {f : Nat → Nat} {m c k : Nat} (hk : k < m) : f k = delN (insN f m c) m k := by
  unfold delN insN
  rw [if_pos hk, if_pos hk]
