/-! PURE: the system's signs, and what a walk of the system writes -/
/-- signs of the system, at g -/
def CSg (m : Nat) (gc gt gn : Nat → Nat) (I : AI) (g : Nat) : Prop := I g 3 = nI m ∧ m ≤ 9 ∧ ∀ k, k < m → (I (g + 1) k = nI (gc k) ∧ I (g + 2) k = nI (gt k) ∧ I (g + 3) k = nI (gn k)) ∧ gc k < 8 ∧ gt k < 8 ∧ gn k < 8
/-- a trip alone is written -/
def zTf (I J : AI) : Prop := ∀ a, a ≠ 67 → a ≠ 68 → a ≠ 69 → J a = I a
theorem zTf.rf {I : AI} : zTf I I := fun _ _ _ _ => rfl
theorem zTf.trans {I J K : AI} (h : zTf I J) (h2 : zTf J K) : zTf I K := fun a h3 h4 h5 => (h2 a h3 h4 h5).trans (h a h3 h4 h5)
theorem zTf.u {I J : AI} (h : zTf I J) {a k : Nat} {x : Int32} (ha : a = 67 ∨ a = 68 ∨ a = 69) : zTf I (zu J a k x) := fun b h3 h4 h5 => by rw [zu_o _ _ (by omega)]; exact h b h3 h4 h5
theorem CSt.eq {nc : Nat} {nr fr : Nat → Nat} {I J : AI} {st la da : Nat} (h : CSt nc nr fr I st la da) (h1 : J st = I st) (h2 : ∀ a, a < 8 → J (la + a) = I (la + a)) (h3 : ∀ a, a < 8 → J (da + a) = I (da + a)) : CSt nc nr fr J st la da := ⟨by rw [h1]; exact h.1, h.2.1, fun a b ha hb => by rw [h2 a ha]; exact h.2.2.1 a b ha hb, fun a b ha hb => by rw [h3 a ha]; exact h.2.2.2.1 a b ha hb, h.2.2.2.2⟩
theorem CSt.tf {nc : Nat} {nr fr : Nat → Nat} {I J : AI} {st la da : Nat} (h : CSt nc nr fr I st la da) (hF : zTf I J) (hs : st < 67 ∧ la + 8 ≤ 67 ∧ da + 8 ≤ 67) : CSt nc nr fr J st la da := h.eq (hF _ (by omega) (by omega) (by omega)) (fun a ha => hF _ (by omega) (by omega) (by omega)) (fun a ha => hF _ (by omega) (by omega) (by omega))
theorem CSg.eq {m : Nat} {gc gt gn : Nat → Nat} {I J : AI} {g : Nat} (h : CSg m gc gt gn I g) (h0 : J g = I g) (h1 : J (g + 1) = I (g + 1)) (h2 : J (g + 2) = I (g + 2)) (h3 : J (g + 3) = I (g + 3)) : CSg m gc gt gn J g := ⟨by rw [h0]; exact h.1, h.2.1, fun k hk => by rw [h1, h2, h3]; exact h.2.2 k hk⟩
theorem CSg.tf {m : Nat} {gc gt gn : Nat → Nat} {I J : AI} {g : Nat} (h : CSg m gc gt gn I g) (hF : zTf I J) (hg : g + 3 < 67 ∨ 70 ≤ g) : CSg m gc gt gn J g := h.eq (hF _ (by omega) (by omega) (by omega)) (hF _ (by omega) (by omega) (by omega)) (hF _ (by omega) (by omega) (by omega)) (hF _ (by omega) (by omega) (by omega))
/-- he ends where he was last -/
theorem zGo_end {nx : Nat → Option Nat → Option Nat} {on : Nat → Nat → Bool} {nr : Nat → Nat} {kd r0 r1 r2 aim : Nat} : ∀ (f st mi wr tx c : Nat) (cm : Option Nat) (be : Nat → Nat) (sy : Nat → Bool), be st = c → (fun T : ZT => T.2.2.2.2.2.2.1 T.1 = T.2.2.2.2.1) (zGo nx on nr kd r0 r1 r2 aim f st mi wr tx c cm be sy)
  | 0, st, mi, wr, tx, c, cm, be, sy, h => by simp only [zGo]; exact h
  | f + 1, st, mi, wr, tx, c, cm, be, sy, h => by
    by_cases ha : c = aim
    · rw [zGo_aim ha]; exact h
    · cases hn : nx c cm with
      | none => rw [zGo_none hn]; exact h
      | some n =>
        rw [zGo_some ha hn]
        exact zGo_end f _ _ _ _ n _ _ _ (va_up_s _ _ _)
/-- behind a walk of the system, T to aim a -/
def zMk (T : ZT) (a : Nat) (I J : AI) : Prop := zTf I J ∧ J 67 2 = nI T.1 ∧ J 67 3 = nI T.2.1 ∧ J 67 4 = nI T.2.2.1 ∧ J 67 5 = nI T.2.2.2.1 ∧ J 67 6 = zb (decide (T.2.2.2.2.1 = a)) ∧ (∀ k, k ≤ T.1 → J 68 k = nI (T.2.2.2.2.2.2.1 k)) ∧ ∀ k, k < T.1 → J 69 k = zb (T.2.2.2.2.2.2.2 k)
theorem hs_5 : (6 : Nat) < 67 ∧ 10 + 8 ≤ 67 ∧ 19 + 8 ≤ 67 := by decide
theorem hs_36 : (37 : Nat) < 67 ∧ 41 + 8 ≤ 67 ∧ 50 + 8 ≤ 67 := by decide
theorem hg_27 : (27 : Nat) + 3 < 67 ∨ 70 ≤ 27 := by decide
theorem hg_58 : (58 : Nat) + 3 < 67 ∨ 70 ≤ 58 := by decide
theorem hg_70 : (70 : Nat) + 3 < 67 ∨ 70 ≤ 70 := by decide
