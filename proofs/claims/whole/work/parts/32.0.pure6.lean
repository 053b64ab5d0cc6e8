/-! PURE: what would be, by the block at 352 -/
abbrev sT (s : Nat → Nat → Nat) (g : Nat → Nat) : Nat → Nat → Nat := va_up s 122 g
/-- all that is paid, by the signs and aims told of block b -/
abbrev taxAt (s : Nat → Nat → Nat) (b : Nat) : Nat := zSum (zTxW s b) (s 116 0)
def zFL (s : Nat → Nat → Nat) (I J : AI) (g : Nat → Nat) : Prop := (∀ a, a ≠ 109 → a ≠ 122 → a ≠ 125 → a ≠ 126 → J a = I a) ∧ (∀ k, (k < 23 ∨ 27 < k) → J 109 k = I 109 k) ∧ (∀ j, J 122 j = nI (g j)) ∧ ∀ j, (j < 352 ∨ 384 ≤ j) → g j = s 122 j
theorem zFL.rf {s : Nat → Nat → Nat} {I : AI} (hR : RefV s I) : zFL s I I (s 122) := ⟨fun _ _ _ _ _ => rfl, fun _ _ => rfl, fun j => hR 122 j rfl, fun _ _ => rfl⟩
theorem zFL.R {s : Nat → Nat → Nat} {I J : AI} {g : Nat → Nat} (h : zFL s I J g) (hR : RefV s I) : RefV (sT s g) J := by
  intro a k ha
  by_cases e : a = 122
  · subst e; rw [sT, va_up_s]; exact h.2.2.1 k
  · have h1 : a ≠ 109 ∧ a ≠ 125 ∧ a ≠ 126 := by
      simp only [zrA, Bool.and_eq_true, decide_eq_true_eq, Bool.not_eq_true', beq_eq_false_iff_ne, ne_eq] at ha
      omega
    rw [sT, va_up_n _ _ e, h.1 a h1.1 e h1.2.1 h1.2.2]
    exact hR a k ha
theorem zFL.frm {s : Nat → Nat → Nat} {I J : AI} {g : Nat → Nat} (h : zFL s I J g) : zFrm I J := fun a ha => h.1 a (by omega) (by omega) (by omega) (by omega)
theorem zFL.one {s : Nat → Nat → Nat} {I J K : AI} {g g2 : Nat → Nat} (h : zFL s I J g) (h2 : zF1 J K g2) (hg : ∀ j, (j < 352 ∨ 384 ≤ j) → g2 j = s 122 j) : zFL s I K g2 := ⟨fun a h3 h4 h5 h6 => (h2.1 a h4).trans (h.1 a h3 h4 h5 h6), fun k hk => by rw [h2.1 109 (by decide)]; exact h.2.1 k hk, h2.2, hg⟩
theorem zFL.go {s : Nat → Nat → Nat} {I J K : AI} {g : Nat → Nat} (h : zFL s I J g) (h2 : zFG J K) : zFL s I K g := ⟨fun a h3 h4 h5 h6 => (h2.1 a h3 h5 h6).trans (h.1 a h3 h4 h5 h6), fun k hk => (h2.2 k hk).trans (h.2.1 k hk), fun j => by rw [h2.1 122 (by decide) (by decide) (by decide)]; exact h.2.2.1 j, h.2.2.2⟩
/-- what stands but for the block at 352 -/
def sLo (s s2 : Nat → Nat → Nat) : Prop := (∀ a, a ≠ 122 → s2 a = s a) ∧ ∀ j, j < 352 → s2 122 j = s 122 j
theorem sLo.rf {s : Nat → Nat → Nat} : sLo s s := ⟨fun _ _ => rfl, fun _ _ => rfl⟩
theorem zFL.A {s : Nat → Nat → Nat} {I J : AI} {g : Nat → Nat} (h : zFL s I J g) (hA : RefA s I) : RefA (sT s g) J ∧ sLo s (sT s g) := by
  refine ⟨⟨h.R hA.1, fun k hk => ?_⟩, fun a ha => va_up_n _ _ ha, fun j hj => ?_⟩
  · have hk2 : k < 23 ∨ 27 < k := by
      simp only [zfk, Bool.or_eq_true, beq_iff_eq] at hk
      omega
    rw [h.2.1 k hk2]
    exact hA.2 k hk
  · rw [sT, va_up_s]; exact h.2.2.2 j (Or.inl hj)
theorem zCopy_eq {f g : Nat → Nat} (h : ∀ j, (j < 352 ∨ 384 ≤ j) → g j = f j) : zCopy g 0 352 = zCopy f 0 352 := by
  funext j
  unfold zCopy
  by_cases e : 352 ≤ j ∧ j < 352 + 32
  · rw [if_pos e, if_pos e]; exact h _ (by omega)
  · rw [if_neg e, if_neg e]; exact h _ (by omega)
theorem zCopy_in {f : Nat → Nat} {j : Nat} (h : j < 32) : zCopy f 0 352 (352 + j) = f j := by
  unfold zCopy
  rw [if_pos (by omega), show 0 + (352 + j - 352) = j by omega]
theorem zCopy_out {f : Nat → Nat} {j : Nat} (h : j < 352 ∨ 384 ≤ j) : zCopy f 0 352 j = f j := by
  unfold zCopy
  rw [if_neg (by omega)]
/-- one sign more, on trial -/
abbrev gPut (s : Nat → Nat → Nat) (c t n : Nat) : Nat → Nat := zPutUp (zCopy (s 122) 0 352) 352 c t n
/-- without sign k, on trial -/
abbrev gCut (s : Nat → Nat → Nat) (k : Nat) : Nat → Nat := zTakeDown (zCopy (s 122) 0 352) 352 k
theorem zC0 {f : Nat → Nat} : zCopy f 0 352 352 = f 0 := zCopy_in (j := 0) (by omega)
theorem gPut_c {s : Nat → Nat → Nat} {c t n : Nat} : gPut s c t n 352 = s 122 0 + 1 := by unfold gPut zPutUp; rw [va_up_s, zC0]
theorem gPut_o {s : Nat → Nat → Nat} {c t n j : Nat} (h : j ≠ 352) (h1 : j ≠ 353 + 3 * s 122 0) (h2 : j ≠ 353 + 3 * s 122 0 + 1) (h3 : j ≠ 353 + 3 * s 122 0 + 2) : gPut s c t n j = zCopy (s 122) 0 352 j := by
  unfold gPut zPutUp
  rw [zC0, va_up_n _ _ h, va_up_n _ _ (by omega), va_up_n _ _ (by omega), va_up_n _ _ (by omega)]
theorem gPut_1 {s : Nat → Nat → Nat} {c t n : Nat} : gPut s c t n (353 + 3 * s 122 0) = c ∧ gPut s c t n (353 + 3 * s 122 0 + 1) = t ∧ gPut s c t n (353 + 3 * s 122 0 + 2) = n := by
  unfold gPut zPutUp
  rw [zC0]
  refine ⟨?_, ?_, ?_⟩
  · rw [va_up_n _ _ (by omega), va_up_n _ _ (by omega), va_up_n _ _ (by omega), show 352 + 1 + 3 * s 122 0 = 353 + 3 * s 122 0 by omega, va_up_s]
  · rw [va_up_n _ _ (by omega), va_up_n _ _ (by omega), show 352 + 1 + 3 * s 122 0 = 353 + 3 * s 122 0 by omega, va_up_s]
  · rw [va_up_n _ _ (by omega), show 352 + 1 + 3 * s 122 0 = 353 + 3 * s 122 0 by omega, va_up_s]
theorem gPut_k {s : Nat → Nat → Nat} {c t n : Nat} (hm : s 122 0 ≤ 8) (hc : c < 8) (ht : t < 8) (hn : n < 8) (hK : RefK s 0) (hP : RefP s) : RefK (sT s (gPut s c t n)) 352 := by
  have hP0 := hP.1
  have h352 : sT s (gPut s c t n) 122 352 = s 122 0 + 1 := gPut_c (c := c) (t := t) (n := n)
  refine ⟨⟨by rw [h352]; omega, fun k hk => ?_⟩, fun i hi => ?_⟩
  · rw [h352] at hk
    by_cases e : k = s 122 0
    · subst e
      obtain ⟨e1, e2, e3⟩ := gPut_1 (s := s) (c := c) (t := t) (n := n)
      exact ⟨by show gPut s c t n (352 + 1 + 3 * s 122 0) < 8; rw [show 352 + 1 + 3 * s 122 0 = 353 + 3 * s 122 0 by omega, e1]; exact hc, by show gPut s c t n (352 + 1 + 3 * s 122 0 + 1) < 8; rw [show 352 + 1 + 3 * s 122 0 = 353 + 3 * s 122 0 by omega, e2]; exact ht, by show gPut s c t n (352 + 1 + 3 * s 122 0 + 2) < 8; rw [show 352 + 1 + 3 * s 122 0 = 353 + 3 * s 122 0 by omega, e3]; exact hn⟩
    · have h1 := hK.1.2 k (by omega)
      refine ⟨?_, ?_, ?_⟩
      · show gPut s c t n (352 + 1 + 3 * k) < 8
        rw [gPut_o (by omega) (by omega) (by omega) (by omega), show 352 + 1 + 3 * k = 352 + (0 + 1 + 3 * k) by omega, zCopy_in (by omega)]
        exact h1.1
      · show gPut s c t n (352 + 1 + 3 * k + 1) < 8
        rw [gPut_o (by omega) (by omega) (by omega) (by omega), show 352 + 1 + 3 * k + 1 = 352 + (0 + 1 + 3 * k + 1) by omega, zCopy_in (by omega)]
        exact h1.2.1
      · show gPut s c t n (352 + 1 + 3 * k + 2) < 8
        rw [gPut_o (by omega) (by omega) (by omega) (by omega), show 352 + 1 + 3 * k + 2 = 352 + (0 + 1 + 3 * k + 2) by omega, zCopy_in (by omega)]
        exact h1.2.2
  · have hi2 : i < s 116 0 := hi
    show gPut s c t n (352 + 28 + i) < 8
    rw [gPut_o (by omega) (by omega) (by omega) (by omega), show 352 + 28 + i = 352 + (0 + 28 + i) by omega, zCopy_in (by omega)]
    exact hK.2 i hi2
theorem gPut_f {s : Nat → Nat → Nat} {c t n : Nat} (hm : s 122 0 ≤ 8) : ∀ j, (j < 352 ∨ 384 ≤ j) → gPut s c t n j = s 122 j := fun j hj => by rw [gPut_o (by omega) (by omega) (by omega) (by omega), zCopy_out hj]
theorem gCut_c {s : Nat → Nat → Nat} {k : Nat} : gCut s k 352 = s 122 0 - 1 := by unfold gCut zTakeDown; rw [if_pos rfl, zC0]
theorem gCut_j {s : Nat → Nat → Nat} {k j : Nat} (hj : 352 < j) (hj2 : j < 352 + 29) (hm : s 122 0 ≤ 8) : gCut s k j = if 353 + 3 * k ≤ j ∧ j < 353 + 3 * s 122 0 - 3 then s 122 (j - 352 + 3) else s 122 (j - 352) := by
  unfold gCut zTakeDown
  rw [if_neg (by omega), zC0]
  by_cases e : 352 + 1 + 3 * k ≤ j ∧ j < 352 + 1 + 3 * s 122 0 - 3
  · rw [if_pos e, if_pos (by omega), show j + 3 = 352 + (j - 352 + 3) by omega, zCopy_in (by omega)]
  · rw [if_neg e, if_neg (by omega)]
    have := zCopy_in (f := s 122) (j := j - 352) (by omega)
    rw [show 352 + (j - 352) = j by omega] at this
    exact this
theorem gCut_t {s : Nat → Nat → Nat} {k i : Nat} (hi : i < 4) (hm : s 122 0 ≤ 8) : gCut s k (352 + 28 + i) = s 122 (28 + i) := by
  unfold gCut zTakeDown
  rw [if_neg (by omega), zC0, if_neg (by omega), show 352 + 28 + i = 352 + (28 + i) by omega, zCopy_in (by omega)]
theorem gCut_k {s : Nat → Nat → Nat} {k : Nat} (hm : s 122 0 ≤ 8) (hk : k < s 122 0) (hK : RefK s 0) (hP : RefP s) : RefK (sT s (gCut s k)) 352 := by
  have hP0 := hP.1
  have h352 : sT s (gCut s k) 122 352 = s 122 0 - 1 := gCut_c (k := k)
  refine ⟨⟨by rw [h352]; omega, fun q hq => ?_⟩, fun i hi => ?_⟩
  · rw [h352] at hq
    have key : ∀ r, r < 3 → gCut s k (353 + 3 * q + r) < 8 := by
      intro r hr
      rw [gCut_j (by omega) (by omega) hm]
      have h0 : ∀ q2, q2 < s 122 0 → s 122 (1 + 3 * q2 + r) < 8 := fun q2 h2 => by
        have h3 := hK.1.2 q2 h2
        have hr3 : r = 0 ∨ r = 1 ∨ r = 2 := by omega
        rcases hr3 with rfl | rfl | rfl
        · have := h3.1; simpa [sgC] using this
        · have := h3.2.1; simpa [sgT] using this
        · have := h3.2.2; simpa [sgN] using this
      split
      · have := h0 (q + 1) (by omega)
        rw [show 353 + 3 * q + r - 352 + 3 = 1 + 3 * (q + 1) + r by omega]
        exact this
      · have := h0 q (by omega)
        rw [show 353 + 3 * q + r - 352 = 1 + 3 * q + r by omega]
        exact this
    exact ⟨key 0 (by omega), key 1 (by omega), key 2 (by omega)⟩
  · have hi2 : i < s 116 0 := hi
    show gCut s k (352 + 28 + i) < 8
    rw [gCut_t (by omega) hm]
    have := hK.2 i hi2
    simpa using this
theorem gCut_f {s : Nat → Nat → Nat} {k : Nat} (hm : s 122 0 ≤ 8) : ∀ j, (j < 352 ∨ 384 ≤ j) → gCut s k j = s 122 j := fun j hj => by
  unfold gCut zTakeDown
  rw [if_neg (by omega), zC0, if_neg (by omega), zCopy_out hj]
/-- MEND, LURE -/
def zMp (s : Nat → Nat → Nat) : Option (Nat × Int32) := zPkL (fun k => nI (taxAt (sT s (gCut s k)) 352)) (s 122 0)
def aMend (s : Nat → Nat → Nat) (x : Int32) : Int32 := if zix x 2 = true then (if x.toNatClampNeg = 0 then zp1 (zMp s) else zp2 (zMp s)) else -1
def zLt (s : Nat → Nat → Nat) (c t n : Nat) : Nat := taxAt (sT s (gPut s c t n)) 352
def luN (s : Nat → Nat → Nat) (c t : Nat) : Nat → Nat × Option Nat → Nat × Option Nat
  | 0, q => q
  | n + 1, q => if s 123 (8 * c + n) < 10000 ∧ (luN s c t n q).1 < zLt s c t n then (zLt s c t n, some (100 * c + 10 * t + n)) else luN s c t n q
def luT (s : Nat → Nat → Nat) (c : Nat) : Nat → Nat × Option Nat → Nat × Option Nat
  | 0, q => q
  | t + 1, q => luN s c t (s 111 0) (luT s c t q)
def luC (s : Nat → Nat → Nat) : Nat → Nat × Option Nat → Nat × Option Nat
  | 0, q => q
  | c + 1, q => luT s c (s 111 0) (luC s c q)
def zLu (s : Nat → Nat → Nat) : Nat × Option Nat := luC s (s 111 0) (taxAt s 0, none)
def aLure (s : Nat → Nat → Nat) (x : Int32) : Int32 := if zix x 2 = true then (match (zLu s).2 with
  | none => -4
  | some q => if x.toNatClampNeg = 0 then nI q else nI (zLu s).1) else -1
theorem luN_lt {s : Nat → Nat → Nat} {c t : Nat} (hc : c < 8) (ht : t < 8) : ∀ {n : Nat} {q : Nat × Option Nat}, n ≤ 8 → (∀ m, q.2 = some m → m < 1000) → ∀ m, (luN s c t n q).2 = some m → m < 1000
  | 0, q, _, h => h
  | n + 1, q, hn, h => by
    intro m hm
    unfold luN at hm
    split at hm
    · cases hm; omega
    · exact luN_lt hc ht (by omega) h m hm
