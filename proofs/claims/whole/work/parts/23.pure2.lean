/-! PURE: a walk. Steps, minutes, wrong steps, coins, where he is, whence he came, where he was, which steps were wrong -/
abbrev ZT : Type := Nat × Nat × Nat × Nat × Nat × Option Nat × (Nat → Nat) × (Nat → Bool)
def zGo (nx : Nat → Option Nat → Option Nat) (on : Nat → Nat → Bool) (nr : Nat → Nat) (kd r0 r1 r2 aim : Nat) : Nat → Nat → Nat → Nat → Nat → Nat → Option Nat → (Nat → Nat) → (Nat → Bool) → ZT
  | 0, st, mi, wr, tx, c, cm, be, sy => (st, mi, wr, tx, c, cm, be, sy)
  | f + 1, st, mi, wr, tx, c, cm, be, sy => if c = aim then (st, mi, wr, tx, c, cm, be, sy) else match nx c cm with
    | none => (st, mi, wr, tx, c, cm, be, sy)
    | some n => zGo nx on nr kd r0 r1 r2 aim f (st + 1) (mi + (nr (8 * c + n) + (if kd = 2 then 1 else 0))) (wr + (if on c n = true then 0 else 1)) (tx + (if kd = 2 then r2 else 0) + (if on c n = true then 0 else (r0 + (if some n = cm then r1 else 0)))) n (some c) (va_up be (st + 1) n) (va_up sy st (!on c n))
section ZGo
variable {nx : Nat → Option Nat → Option Nat} {on : Nat → Nat → Bool} {nr : Nat → Nat} {kd r0 r1 r2 aim : Nat} {f st mi wr tx c : Nat} {cm : Option Nat} {be : Nat → Nat} {sy : Nat → Bool}
theorem zGo_aim (h : c = aim) : zGo nx on nr kd r0 r1 r2 aim f st mi wr tx c cm be sy = (st, mi, wr, tx, c, cm, be, sy) := by
  cases f with
  | zero => rfl
  | succ f => unfold zGo; rw [if_pos h]
theorem zGo_none (h : nx c cm = none) : zGo nx on nr kd r0 r1 r2 aim f st mi wr tx c cm be sy = (st, mi, wr, tx, c, cm, be, sy) := by
  cases f with
  | zero => rfl
  | succ f => unfold zGo; rw [h]; simp
theorem zGo_some {n : Nat} (ha : ¬ c = aim) (h : nx c cm = some n) : zGo nx on nr kd r0 r1 r2 aim (f + 1) st mi wr tx c cm be sy = zGo nx on nr kd r0 r1 r2 aim f (st + 1) (mi + (nr (8 * c + n) + (if kd = 2 then 1 else 0))) (wr + (if on c n = true then 0 else 1)) (tx + (if kd = 2 then r2 else 0) + (if on c n = true then 0 else (r0 + (if some n = cm then r1 else 0)))) n (some c) (va_up be (st + 1) n) (va_up sy st (!on c n)) := by
  rw [zGo, if_neg ha, h]
end ZGo
/-- the walk from a corner, 30 steps at most -/
def zTrip (nx : Nat → Option Nat → Option Nat) (on : Nat → Nat → Bool) (nr : Nat → Nat) (kd r0 r1 r2 aim fm : Nat) : ZT := zGo nx on nr kd r0 r1 r2 aim 30 0 0 0 0 fm none (fun _ => fm) (fun _ => false)
/-- where he is behind k steps -/
def zAt (T : ZT) (k : Nat) : Nat := if k ≤ T.1 then T.2.2.2.2.2.2.1 k else T.2.2.2.2.1
/-- how many of the first n steps are wrong ones from corner x -/
def zTl (be : Nat → Nat) (sy : Nat → Bool) : Nat → Nat → Nat
  | 0, _ => 0
  | n + 1, x => zTl be sy n x + (if sy n = true ∧ be n = x then 1 else 0)
theorem zTl_congr {be be2 : Nat → Nat} {sy sy2 : Nat → Bool} {x : Nat} : ∀ {n : Nat}, (∀ j, j < n → be j = be2 j ∧ sy j = sy2 j) → zTl be sy n x = zTl be2 sy2 n x
  | 0, _ => rfl
  | n + 1, h => by
    unfold zTl
    rw [zTl_congr (fun j hj => h j (by omega)), (h n (by omega)).1, (h n (by omega)).2]
theorem zNx_ok {nc : Nat} {nr fr : Nat → Nat} {sg : Nat → Option Nat} {kd aim c n : Nat} {cm : Option Nat} (hnc : nc ≤ 8) (hcm : ∀ m, cm = some m → m < 8 ∧ nr (8 * c + m) < 10000) (hsg : ∀ p, sg c = some p → p < 8) (h : zNx nc nr fr sg kd aim c cm = some n) : n < 8 ∧ nr (8 * c + n) < 10000 := by
  have hF : ∀ n, zOnF nc nr c cm = some n → n < 8 ∧ nr (8 * c + n) < 10000 := by
    intro n h
    unfold zOnF at h
    cases e : zLo (zSt nr c cm) nc with
    | none => rw [e] at h; exact hcm n h
    | some k =>
      rw [e] at h
      cases h
      have := zLo_lt e
      have h2 := of_decide_eq_true this.2
      exact ⟨by omega, h2.2⟩
  unfold zNx at h
  by_cases h1 : kd = 1
  · rw [if_pos h1] at h
    unfold zStr at h
    cases e : sg c with
    | none => rw [e] at h; exact hF n h
    | some p =>
      rw [e] at h
      by_cases hp : nr (8 * c + p) < 10000
      · simp only [hp, if_true] at h
        cases h
        exact ⟨hsg n e, hp⟩
      · simp only [hp, if_false] at h
        exact hF n h
  · rw [if_neg h1] at h
    by_cases h3 : kd = 3
    · rw [if_pos h3] at h
      unfold zOnL at h
      cases e : zHi (zSt nr c cm) nc with
      | none => rw [e] at h; exact hcm n h
      | some k =>
        rw [e] at h
        cases h
        have := zHi_lt e
        have h2 := of_decide_eq_true this.2
        exact ⟨by omega, h2.2⟩
    · rw [if_neg h3] at h
      have := zLo_lt h
      have h2 := of_decide_eq_true this.2
      exact ⟨by omega, h2.2.1⟩
/-! the reference's numbers, one set -/
def zuN (s : Nat → Nat → Nat) (a k x : Nat) : Nat → Nat → Nat := va_up s a (va_up (s a) k x)
theorem RefV.u {s : Nat → Nat → Nat} {I : AI} (h : RefV s I) (a k x : Nat) : RefV (zuN s a k x) (zu I a k (nI x)) := by
  intro b j hb
  unfold zuN zu va_up upd
  by_cases e1 : b = a
  · subst e1
    rw [if_pos rfl, if_pos rfl]
    by_cases e2 : j = k
    · rw [if_pos e2, if_pos e2]
    · rw [if_neg e2, if_neg e2]; exact h b j hb
  · rw [if_neg e1, if_neg e1]; exact h b j hb
/-- a write that the numbers do not tell of -/
theorem RefV.o {s : Nat → Nat → Nat} {I : AI} (h : RefV s I) {a k : Nat} {x : Int32} (ha : zrA a = false) : RefV s (zu I a k x) := by
  intro b j hb
  have e1 : ¬ b = a := fun e => by subst e; rw [ha] at hb; cases hb
  unfold zu va_up
  rw [if_neg e1]
  exact h b j hb
/-- the same but where P says -/
def Scr (P : Nat → Nat → Bool) (s s2 : Nat → Nat → Nat) : Prop := ∀ a k, P a k = false → s2 a k = s a k
theorem Scr.rf {P : Nat → Nat → Bool} {s : Nat → Nat → Nat} : Scr P s s := fun _ _ _ => rfl
theorem Scr.u {P : Nat → Nat → Bool} {s s2 : Nat → Nat → Nat} (h : Scr P s s2) {a k x : Nat} (hp : P a k = true) : Scr P s (zuN s2 a k x) := by
  intro b j hb
  unfold zuN va_up
  by_cases e1 : b = a
  · subst e1
    rw [if_pos rfl]
    by_cases e2 : j = k
    · subst e2; rw [hp] at hb; cases hb
    · rw [if_neg e2]; exact h b j hb
  · rw [if_neg e1]; exact h b j hb
theorem Scr.trans {P : Nat → Nat → Bool} {s s2 s3 : Nat → Nat → Nat} (h : Scr P s s2) (h2 : Scr P s2 s3) : Scr P s s3 := fun a k hp => (h2 a k hp).trans (h a k hp)
theorem Scr.mono {P Q : Nat → Nat → Bool} {s s2 : Nat → Nat → Nat} (h : Scr P s s2) (hq : ∀ a k, Q a k = false → P a k = false) : Scr Q s s2 := fun a k hp => h a k (hq a k hp)
/-- what a walk leaves as it was -/
def zFG (I J : AI) : Prop := (∀ a, a ≠ 109 → a ≠ 125 → a ≠ 126 → J a = I a) ∧ ∀ k, (k < 23 ∨ 27 < k) → J 109 k = I 109 k
theorem zFG.rf {I : AI} : zFG I I := ⟨fun _ _ _ _ => rfl, fun _ _ => rfl⟩
theorem zFG.trans {I J K : AI} (h : zFG I J) (h2 : zFG J K) : zFG I K := ⟨fun a h3 h4 h5 => (h2.1 a h3 h4 h5).trans (h.1 a h3 h4 h5), fun k hk => (h2.2 k hk).trans (h.2 k hk)⟩
theorem zFG.f {I J : AI} (h : zFG I J) {k : Nat} {x : Int32} (h1 : 23 ≤ k) (h2 : k ≤ 27) : zFG I (zu J 109 k x) := by
  refine ⟨fun a h3 h4 h5 => ?_, fun j hj => ?_⟩
  · unfold zu va_up; rw [if_neg h3]; exact h.1 a h3 h4 h5
  · unfold zu va_up upd; rw [if_pos rfl, if_neg (by omega)]; exact h.2 j hj
theorem zFG.b {I J : AI} (h : zFG I J) {k : Nat} {x : Int32} : zFG I (zu J 125 k x) := by
  refine ⟨fun a h3 h4 h5 => ?_, fun j hj => ?_⟩
  · unfold zu va_up; rw [if_neg h4]; exact h.1 a h3 h4 h5
  · unfold zu va_up; rw [if_neg (by decide)]; exact h.2 j hj
theorem zFG.t {I J : AI} (h : zFG I J) {k : Nat} {x : Int32} : zFG I (zu J 126 k x) := by
  refine ⟨fun a h3 h4 h5 => ?_, fun j hj => ?_⟩
  · unfold zu va_up; rw [if_neg h5]; exact h.1 a h3 h4 h5
  · unfold zu va_up; rw [if_neg (by decide)]; exact h.2 j hj
theorem zFG.R {s : Nat → Nat → Nat} {I J : AI} (h : zFG I J) (hR : RefV s I) : RefV s J := by
  intro a k ha
  have h1 : a ≠ 109 ∧ a ≠ 125 ∧ a ≠ 126 := by
    simp only [zrA, Bool.and_eq_true, decide_eq_true_eq, Bool.not_eq_true', beq_eq_false_iff_ne, ne_eq] at ha
    omega
  rw [h.1 a h1.1 h1.2.1 h1.2.2]
  exact hR a k ha
/-- the system's cells stay -/
def zFrm (I J : AI) : Prop := ∀ a, a < 109 → J a = I a
theorem zFrm.u {I J : AI} (h : zFrm I J) {a k : Nat} {x : Int32} (ha : 109 ≤ a) : zFrm I (zu J a k x) := by
  intro b hb
  unfold zu va_up
  rw [if_neg (by omega)]
  exact h b hb
theorem zFrm.rf {I : AI} : zFrm I I := fun _ _ => rfl
theorem zFrm.trans {I J K : AI} (h : zFrm I J) (h2 : zFrm J K) : zFrm I K := fun a ha => (h2 a ha).trans (h a ha)
theorem zFG.frm {I J : AI} (h : zFG I J) : zFrm I J := fun a ha => h.1 a (by omega) (by omega) (by omega)
/-- what a walk of the reference needs: rows and rates within bounds, streets both ways -/
def RefT (s : Nat → Nat → Nat) : Prop := RefN s ∧ s 111 0 ≤ 8 ∧ (∀ a b, a < 8 → b < 8 → s 123 (8 * a + b) = s 123 (8 * b + a)) ∧ ∀ k, k < 3 → s 120 k ≤ 9
/-- and of a block of signs -/
def RefS (s : Nat → Nat → Nat) (b : Nat) : Prop := s 122 b ≤ 9 ∧ ∀ k, k < s 122 b → sgC s b k < 8 ∧ sgT s b k < 8 ∧ sgN s b k < 8
/-- a walk by the reference's numbers -/
def zTrS (s : Nat → Nat → Nat) (b kd fm aim told : Nat) : ZT := zTrip (zNx (s 111 0) (s 123) (s 124) (sgAt s b aim) kd aim) (fun c n => zOnB (s 123) (s 124) c n told) (s 123) kd (s 120 0) (s 120 1) (s 120 2) aim fm
theorem zu_s (I : AI) (a k : Nat) (x : Int32) : zu I a k x a k = x := by simp [zu, va_up, upd]
theorem zu_n (I : AI) {a k j : Nat} (x : Int32) (h : j ≠ k) : zu I a k x a j = I a j := by simp [zu, va_up, upd, h]
theorem zu_o (I : AI) {a b k : Nat} (x : Int32) (h : b ≠ a) : zu I a k x b = I b := by simp [zu, va_up, h]
