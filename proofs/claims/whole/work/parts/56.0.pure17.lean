/-- the streets of the system's town at t -/
def CSr (nc m : Nat) (sa sb sl : Nat → Nat) (I : AI) (t : Nat) : Prop := I (t + 1) 0 = nI nc ∧ nc ≤ 8 ∧ I (t + 1) 1 = nI m ∧ m ≤ 12 ∧ ∀ k, k < m → (I (t + 2) k = nI (sa k) ∧ I (t + 3) k = nI (sb k) ∧ I (t + 5 + sa k) (sb k) = nI (sl k)) ∧ ¬ sa k = sb k ∧ sa k < nc ∧ sb k < nc ∧ 1 ≤ sl k ∧ sl k ≤ 20
theorem CSr.ng {nc m : Nat} {sa sb sl : Nat → Nat} {I : AI} {t : Nat} (h : CSr nc m sa sb sl I t) {w : Option Nat} {n : Nat} (hn : n ≤ m) : zNg nc (zNr sa sb sl w n) := zNr_ng (fun k hk => by have := (h.2.2.2.2 k (by omega)).2; omega) h.2.1
def zSm (sa sb sl : Nat → Nat) (w : Option Nat) (k a b : Nat) : Nat := if a = b then 0 else zNr sa sb sl w k (8 * a + b)
theorem zSm_w {sa sb sl : Nat → Nat} {w : Option Nat} {k a b : Nat} (h : some k = w) : zSm sa sb sl w (k + 1) a b = zSm sa sb sl w k a b := by
  unfold zSm
  split
  · rfl
  · rw [zNr, if_pos h]
/-- the half of a street -/
def zSh (sa sb sl : Nat → Nat) (w : Option Nat) (k a b : Nat) : Nat := if a = b then 0 else va_up (zNr sa sb sl w k) (8 * sa k + sb k) (sl k) (8 * a + b)
theorem zSh_1 {sa sb sl : Nat → Nat} {w : Option Nat} {k : Nat} (h : ¬ sa k = sb k) : zSh sa sb sl w k (sa k) (sb k) = sl k := by unfold zSh; rw [if_neg h, va_up_s]
theorem zSh_o {sa sb sl : Nat → Nat} {w : Option Nat} {k a b : Nat} (ha : a < 8) (hb : b < 8) (h1 : sa k < 8) (h2 : sb k < 8) (h : ¬ (a = sa k ∧ b = sb k)) : zSh sa sb sl w k a b = zSm sa sb sl w k a b := by
  unfold zSh zSm
  split
  · rfl
  · rw [va_up_n _ _ (by omega)]
theorem zSm_1 {sa sb sl : Nat → Nat} {w : Option Nat} {k : Nat} (hw : ¬ some k = w) (h : ¬ sa k = sb k) : zSm sa sb sl w (k + 1) (sb k) (sa k) = sl k := by unfold zSm; rw [if_neg (fun e => h e.symm), zNr, if_neg hw, va_up_s]
theorem zSm_o {sa sb sl : Nat → Nat} {w : Option Nat} {k a b : Nat} (hw : ¬ some k = w) (ha : a < 8) (hb : b < 8) (h1 : sa k < 8) (h2 : sb k < 8) (h : ¬ (a = sb k ∧ b = sa k)) : zSm sa sb sl w (k + 1) a b = zSh sa sb sl w k a b := by
  unfold zSh zSm
  split
  · rfl
  · rw [zNr, if_neg hw, va_up_n _ _ (by omega)]
/-- minutes to the aims -/
def zMa (g : Nat → Nat) : Nat → Int32
  | 0 => nI 0
  | i + 1 => zMa g i + nI (c200 (g i))
theorem zMa_sub {g h : Nat → Nat} : ∀ n, zMa g n - zMa h n = zMw g h n
  | 0 => by show nI 0 - nI 0 = nI 0; decide
  | n + 1 => by
    rw [zMw, ← zMa_sub n]
    show zMa g n + nI (c200 (g n)) - (zMa h n + nI (c200 (h n))) = _
    generalize zMa g n = a
    generalize zMa h n = b
    generalize nI (c200 (g n)) = x
    generalize nI (c200 (h n)) = y
    rw [Int32.sub_eq_add_neg, Int32.sub_eq_add_neg a b, Int32.sub_eq_add_neg x y, Int32.neg_add, Int32.sub_eq_add_neg (-b) y, Int32.add_assoc, Int32.add_assoc a (-b), ← Int32.add_assoc x, Int32.add_comm x (-b), Int32.add_assoc (-b)]
