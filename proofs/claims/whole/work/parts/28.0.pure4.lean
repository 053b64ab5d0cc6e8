theorem zKnow_lo {f : Nat → Nat} {d j : Nat} (h : j < 32) : zKnow f d j = f j := by
  unfold zKnow
  by_cases e : d = 8
  · rw [if_pos e]
    unfold zCopy zShift
    rw [if_neg (by omega), if_neg (by omega)]
  · rw [if_neg e]
    unfold zCopy
    rw [if_neg (by omega)]
/-! what the reference answers, and how it stands then -/
def aPut (s : Nat → Nat → Nat) (x y z : Int32) : Int32 := if zix x (s 111 0) = true ∧ zix y (s 111 0) = true ∧ zix z (s 111 0) = true then (if s 122 0 = 8 then -3 else nI (s 122 0 + 1)) else -1
def nPut (s : Nat → Nat → Nat) (x y z : Int32) : Nat → Nat → Nat := if (zix x (s 111 0) = true ∧ zix y (s 111 0) = true ∧ zix z (s 111 0) = true) ∧ ¬ s 122 0 = 8 then sSet s (zPutUp (zKnow (s 122) (s 109 18)) 0 x.toNatClampNeg y.toNatClampNeg z.toNatClampNeg) (zKd (s 109 18)) else s
def aTake (s : Nat → Nat → Nat) (x : Int32) : Int32 := if zix x (s 122 0) = true then nI (s 122 0 - 1) else -1
def nTake (s : Nat → Nat → Nat) (x : Int32) : Nat → Nat → Nat := if zix x (s 122 0) = true then sSet s (zTakeDown (zKnow (s 122) (s 109 18)) 0 x.toNatClampNeg) (zKd (s 109 18)) else s
def aTell (s : Nat → Nat → Nat) (x y : Int32) : Int32 := if zix x (s 116 0) = true ∧ zix y (s 111 0) = true then nI (s 122 (28 + x.toNatClampNeg)) else -1
def nTell (s : Nat → Nat → Nat) (x y : Int32) : Nat → Nat → Nat := if zix x (s 116 0) = true ∧ zix y (s 111 0) = true then sSet s (va_up (zKnow (s 122) (s 109 18)) (28 + x.toNatClampNeg) y.toNatClampNeg) (zKd (s 109 18)) else s
def aUndo (s : Nat → Nat → Nat) : Int32 := if s 109 18 = 0 then -2 else nI (s 109 18 - 1)
def nUndo (s : Nat → Nat → Nat) : Nat → Nat → Nat := if s 109 18 = 0 then s else sSet s (zCopy (s 122) (32 + 32 * (s 109 18 - 1)) 0) (s 109 18 - 1)
def aKeep (s : Nat → Nat → Nat) : Int32 := if s 109 19 = 2 then -3 else nI (s 109 19 + 1)
def nKeep (s : Nat → Nat → Nat) : Nat → Nat → Nat := if s 109 19 = 2 then s else va_up (va_up s 122 (zCopy (s 122) 0 (288 + 32 * s 109 19))) 109 (va_up (s 109) 19 (s 109 19 + 1))
def aBack (s : Nat → Nat → Nat) : Int32 := if s 109 19 = 0 then -2 else nI (s 109 19 - 1)
def nBack (s : Nat → Nat → Nat) : Nat → Nat → Nat := if s 109 19 = 0 then s else va_up (va_up s 122 (zCopy (s 122) (288 + 32 * (s 109 19 - 1)) 0)) 109 (va_up (va_up (s 109) 19 (s 109 19 - 1)) 18 0)
def aWrite (s : Nat → Nat → Nat) (x : Int32) : Int32 := if 32 ≤ x ∧ x ≤ 126 then (if s 109 1 = 200 then -3 else nI (s 109 1 + 1)) else -1
def nWrite (s : Nat → Nat → Nat) (x : Int32) : Nat → Nat → Nat := if (32 ≤ x ∧ x ≤ 126) ∧ ¬ s 109 1 = 200 then zuN (zuN s 110 (s 109 1) x.toNatClampNeg) 109 1 (s 109 1 + 1) else s
def aSeen (s : Nat → Nat → Nat) (x y z : Int32) : Int32 := if zix x (s 116 0) = true ∧ zix y (s 111 0) = true ∧ zix z 31 = true then (if s 109 33 = 8 then -3 else nI (s 109 33 + 1)) else -1
def nSeen (s : Nat → Nat → Nat) (x y z : Int32) : Nat → Nat → Nat := if (zix x (s 116 0) = true ∧ zix y (s 111 0) = true ∧ zix z 31 = true) ∧ ¬ s 109 33 = 8 then zuN (zuN (zuN (zuN s 128 (s 109 33) x.toNatClampNeg) 129 (s 109 33) y.toNatClampNeg) 130 (s 109 33) z.toNatClampNeg) 109 33 (s 109 33 + 1) else s
def aCount (s : Nat → Nat → Nat) (x : Int32) : Int32 := if zix x 8 = true then nI (match x.toNatClampNeg with
  | 0 => s 111 0 | 1 => s 112 0 | 2 => s 122 0 | 3 => s 116 0 | 4 => s 109 33 | 5 => s 109 18 | 6 => s 109 19 | _ => s 109 1) else -1
theorem RefA.u {s : Nat → Nat → Nat} {I : AI} (h : RefA s I) (a k x : Nat) : RefA (zuN s a k x) (zu I a k (nI x)) := by
  refine ⟨h.1.u a k x, fun j hj => ?_⟩
  unfold zuN zu va_up upd
  by_cases e1 : 109 = a
  · rw [if_pos e1, if_pos e1]
    subst e1
    by_cases e2 : j = k
    · rw [if_pos e2, if_pos e2]
    · rw [if_neg e2, if_neg e2]; exact h.2 j hj
  · rw [if_neg e1, if_neg e1]; exact h.2 j hj
