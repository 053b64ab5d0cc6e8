/-! PURE: changes, shelf -/
def zNo (d o : Nat) : Nat := if d = 8 then (o + 1) % 8 else o
def zNd (d : Nat) : Nat := if d = 8 then 7 else d
/-- one change noted -/
def zNote (o d : Nat) (x1 x2 x3 x4 x5 : Int32) (I J : AI) : Prop := (∀ a, (a < 74 ∨ 79 < a) → J a = I a) ∧ J 74 5 = nI (zNo d o) ∧ J 74 6 = nI (zNd d + 1) ∧ ∀ j, J 75 j = (if j = (zNo d o + zNd d) % 8 then x1 else I 75 j) ∧ J 76 j = (if j = (zNo d o + zNd d) % 8 then x2 else I 76 j) ∧ J 77 j = (if j = (zNo d o + zNd d) % 8 then x3 else I 77 j) ∧ J 78 j = (if j = (zNo d o + zNd d) % 8 then x4 else I 78 j) ∧ J 79 j = (if j = (zNo d o + zNd d) % 8 then x5 else I 79 j)
theorem zu_if (I : AI) (a k j : Nat) (x : Int32) : zu I a k x a j = if j = k then x else I a j := by
  by_cases e : j = k
  · rw [if_pos e, e]; exact zu_s _ _ _ _
  · rw [if_neg e]; exact zu_n _ _ e
