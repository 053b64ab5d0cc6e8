/-! PURE: how far it is -/
/-- the streets by their minutes, but one -/
def zNr (sa sb sl : Nat → Nat) (w : Option Nat) : Nat → Nat → Nat
  | 0 => fun _ => 10000
  | n + 1 => if some n = w then zNr sa sb sl w n else va_up (va_up (zNr sa sb sl w n) (8 * sa n + sb n) (sl n)) (8 * sb n + sa n) (sl n)
/-- the shortest way from a to b by corners below m -/
def zD (nr : Nat → Nat) : Nat → Nat → Nat → Nat
  | 0, a, b => if a = b then 0 else nr (8 * a + b)
  | m + 1, a, b => min (zD nr m a b) (zD nr m a m + zD nr m m b)
theorem zD_s {nr : Nat → Nat} {m a b : Nat} : zD nr (m + 1) a b = min (zD nr m a b) (zD nr m a m + zD nr m m b) := rfl
theorem zD_0 {nr : Nat → Nat} {a b : Nat} : zD nr 0 a b = if a = b then 0 else nr (8 * a + b) := rfl
theorem zD_self {nr : Nat → Nat} {a : Nat} : ∀ m, zD nr m a a = 0
  | 0 => if_pos rfl
  | m + 1 => by rw [zD_s, zD_self m]; exact Nat.zero_min _
theorem zD_r {nr : Nat → Nat} {m a : Nat} : zD nr (m + 1) a m = zD nr m a m := by
  rw [zD_s, zD_self, Nat.add_zero, Nat.min_self]
theorem zD_l {nr : Nat → Nat} {m b : Nat} : zD nr (m + 1) m b = zD nr m m b := by
  rw [zD_s, zD_self, Nat.zero_add, Nat.min_self]
theorem zD_le {nr : Nat → Nat} (h : ∀ k, nr k ≤ 10000) {a b : Nat} : ∀ m, zD nr m a b ≤ 10000
  | 0 => by
    rw [zD_0]
    split
    · omega
    · exact h _
  | m + 1 => by rw [zD_s]; exact Nat.le_trans (Nat.min_le_left _ _) (zD_le h m)
theorem zNr_le {sa sb sl : Nat → Nat} {w : Option Nat} : ∀ {n : Nat}, (∀ k, k < n → sl k ≤ 20) → ∀ k, zNr sa sb sl w n k ≤ 10000
  | 0, _, k => Nat.le_refl _
  | n + 1, h, k => by
    have ih := zNr_le (sa := sa) (sb := sb) (sl := sl) (w := w) (n := n) (fun k hk => h k (by omega))
    have h2 := h n (by omega)
    unfold zNr
    split
    · exact ih k
    · unfold va_up
      split
      · omega
      · split
        · omega
        · exact ih k
def zFar (nr : Nat → Nat) (k : Nat) : Nat := zD nr 8 (k / 8) (k % 8)
/-- rows 123 and 124 are these -/
def zF3 (I J : AI) (n f : Nat → Nat) : Prop := (∀ a, a ≠ 123 → a ≠ 124 → J a = I a) ∧ (∀ k, k < 64 → J 123 k = nI (n k)) ∧ (∀ k, k < 64 → J 124 k = nI (f k)) ∧ ∀ k, 64 ≤ k → J 123 k = I 123 k ∧ J 124 k = I 124 k
/-- the streets of the reference -/
def RefG (s : Nat → Nat → Nat) : Prop := s 112 0 ≤ 12 ∧ ∀ k, k < s 112 0 → s 113 k < 8 ∧ s 114 k < 8 ∧ s 115 k ≤ 20
abbrev nrS (s : Nat → Nat → Nat) (w : Option Nat) : Nat → Nat := zNr (s 113) (s 114) (s 115) w (s 112 0)
/-- near and far stand as measured -/
def RefM (s : Nat → Nat → Nat) : Prop := ∀ k, k < 64 → s 123 k = nrS s none k ∧ s 124 k = zFar (nrS s none) k
def c200 (v : Nat) : Nat := if v < 10000 then v else 200
def zMw (f o : Nat → Nat) : Nat → Int32
  | 0 => nI 0
  | i + 1 => zMw f o i + (nI (c200 (f i)) - nI (c200 (o i)))
abbrev zFa (s : Nat → Nat → Nat) (w : Option Nat) (i : Nat) : Nat := zFar (nrS s w) (8 * s 118 i + s 119 i)
def zMi (s : Nat → Nat → Nat) : Option (Nat × Int32) := zPkM (fun k => zMw (zFa s (some k)) (zFa s none) (s 116 0)) (s 112 0)
def aMissed (s : Nat → Nat → Nat) (x : Int32) : Int32 := if zix x 2 = true then (if x.toNatClampNeg = 0 then zp1 (zMi s) else zp2 (zMi s)) else -1
