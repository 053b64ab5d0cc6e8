theorem zPic.eq {I J : AI} {pk : Option (Nat × Int32)} (h : zPic I pk) (e : J 97 = I 97) : zPic J pk := by unfold zPic; rw [e]; exact h
/-- where he goes does not hang on what is told -/
theorem zGo_on {nx : Nat → Option Nat → Option Nat} {on on2 : Nat → Nat → Bool} {nr : Nat → Nat} {kd r0 r1 r2 aim : Nat} : ∀ (f st mi wr tx c : Nat) (cm : Option Nat) (be : Nat → Nat) (sy : Nat → Bool) (wr2 tx2 : Nat) (sy2 : Nat → Bool), (fun T U : ZT => T.1 = U.1 ∧ T.2.2.2.2.1 = U.2.2.2.2.1 ∧ T.2.2.2.2.2.2.1 = U.2.2.2.2.2.2.1) (zGo nx on nr kd r0 r1 r2 aim f st mi wr tx c cm be sy) (zGo nx on2 nr kd r0 r1 r2 aim f st mi wr2 tx2 c cm be sy2)
  | 0, st, mi, wr, tx, c, cm, be, sy, wr2, tx2, sy2 => ⟨rfl, rfl, rfl⟩
  | f + 1, st, mi, wr, tx, c, cm, be, sy, wr2, tx2, sy2 => by
    by_cases ha : c = aim
    · rw [zGo_aim ha, zGo_aim ha]; exact ⟨rfl, rfl, rfl⟩
    · cases hn : nx c cm with
      | none => rw [zGo_none hn, zGo_none hn]; exact ⟨rfl, rfl, rfl⟩
      | some n =>
        rw [zGo_some ha hn, zGo_some ha hn]
        exact zGo_on f _ _ _ _ n _ _ _ _ _ _
theorem zTrS_to {s : Nat → Nat → Nat} {b kd fm aim to to2 : Nat} (k : Nat) : zAt (zTrS s b kd fm aim to) k = zAt (zTrS s b kd fm aim to2) k := by
  have h := zGo_on (nx := zNx (s 111 0) (s 123) (s 124) (sgAt s b aim) kd aim) (on := fun c n => zOnB (s 123) (s 124) c n to) (on2 := fun c n => zOnB (s 123) (s 124) c n to2) (nr := s 123) (kd := kd) (r0 := s 120 0) (r1 := s 120 1) (r2 := s 120 2) (aim := aim) 30 0 0 0 0 fm none (fun _ => fm) (fun _ => false) 0 0 (fun _ => false)
  unfold zAt
  show (if k ≤ (zTrS s b kd fm aim to).1 then (zTrS s b kd fm aim to).2.2.2.2.2.2.1 k else (zTrS s b kd fm aim to).2.2.2.2.1) = _
  have h1 : (zTrS s b kd fm aim to).1 = (zTrS s b kd fm aim to2).1 := h.1
  have h2 : (zTrS s b kd fm aim to).2.2.2.2.1 = (zTrS s b kd fm aim to2).2.2.2.2.1 := h.2.1
  have h3 : (zTrS s b kd fm aim to).2.2.2.2.2.2.1 = (zTrS s b kd fm aim to2).2.2.2.2.2.2.1 := h.2.2
  rw [h1, h2, h3]
theorem zFit_to {s : Nat → Nat → Nat} {i : Nat} {T U : ZT} (h : ∀ k, zAt T k = zAt U k) : ∀ n, zFit s i T n = zFit s i U n
  | 0 => rfl
  | n + 1 => by unfold zFit; rw [zFit_to h n, h]
theorem zRf.sc {t : Nat} {I J : AI} (h : zRf 99 I J) : zSc t I J := fun a ha => h a (by omega)
theorem zMw_c {f g h k : Nat → Nat} : ∀ {n : Nat}, (∀ i, i < n → f i = g i ∧ h i = k i) → zMw f h n = zMw g k n
  | 0, _ => rfl
  | n + 1, e => by unfold zMw; rw [zMw_c (fun i hi => e i (by omega)), (e n (by omega)).1, (e n (by omega)).2]
