/-! PURE: a walk. Steps, minutes, wrong steps, coins, where he is, whence he came, where he was, which steps were wrong -/
abbrev ZT : Type := Nat × Nat × Nat × Nat × Nat × Option Nat × (Nat → Nat) × (Nat → Bool)
def zGo (nx : Nat → Option Nat → Option Nat) (on : Nat → Nat → Bool) (nr : Nat → Nat) (kd r0 r1 r2 aim : Nat) : Nat → Nat → Nat → Nat → Nat → Nat → Option Nat → (Nat → Nat) → (Nat → Bool) → ZT
  | 0, st, mi, wr, tx, c, cm, be, sy => (st, mi, wr, tx, c, cm, be, sy)
  | f + 1, st, mi, wr, tx, c, cm, be, sy => if c = aim then (st, mi, wr, tx, c, cm, be, sy) else match nx c cm with
    | none => (st, mi, wr, tx, c, cm, be, sy)
    | some n => zGo nx on nr kd r0 r1 r2 aim f (st + 1) (mi + (nr (8 * c + n) + (if kd = 2 then 1 else 0))) (wr + (if on c n = true then 0 else 1)) (tx + (if kd = 2 then r2 else 0) + (if on c n = true then 0 else (r0 + (if some n = cm then r1 else 0)))) n (some c) (va_up be (st + 1) n) (va_up sy st (!on c n))
section ZGo
variable {nx : Nat → Option Nat → Option Nat} {on : Nat → Nat → Bool} {nr : Nat → Nat} {kd r0 r1 r2 aim : Nat} {f st mi wr tx c : Nat} {cm : Option Nat} {be : Nat → Nat} {sy : Nat → Bool}
theorem zGo_aim (h : c = aim) : zGo nx on nr kd r0 r1 r2 aim f st mi wr tx c cm be sy = (st, mi, wr, tx, c, cm, be, sy) := by
  cases f with
  | zero => rfl
  | succ f => unfold zGo; rw [if_pos h]
theorem zGo_none (h : nx c cm = none) : zGo nx on nr kd r0 r1 r2 aim f st mi wr tx c cm be sy = (st, mi, wr, tx, c, cm, be, sy) := by
  cases f with
  | zero => rfl
  | succ f => unfold zGo; rw [h]; simp
theorem zGo_some {n : Nat} (ha : ¬ c = aim) (h : nx c cm = some n) : zGo nx on nr kd r0 r1 r2 aim (f + 1) st mi wr tx c cm be sy = zGo nx on nr kd r0 r1 r2 aim f (st + 1) (mi + (nr (8 * c + n) + (if kd = 2 then 1 else 0))) (wr + (if on c n = true then 0 else 1)) (tx + (if kd = 2 then r2 else 0) + (if on c n = true then 0 else (r0 + (if some n = cm then r1 else 0)))) n (some c) (va_up be (st + 1) n) (va_up sy st (!on c n)) := by
  rw [zGo, if_neg ha, h]
end ZGo
/-- the walk from a corner, 30 steps at most -/
def zTrip (nx : Nat → Option Nat → Option Nat) (on : Nat → Nat → Bool) (nr : Nat → Nat) (kd r0 r1 r2 aim fm : Nat) : ZT := zGo nx on nr kd r0 r1 r2 aim 30 0 0 0 0 fm none (fun _ => fm) (fun _ => false)
/-- where he is behind k steps -/
def zAt (T : ZT) (k : Nat) : Nat := if k ≤ T.1 then T.2.2.2.2.2.2.1 k else T.2.2.2.2.1
/-- how many of the first n steps are wrong ones from corner x -/
def zTl (be : Nat → Nat) (sy : Nat → Bool) : Nat → Nat → Nat
  | 0, _ => 0
  | n + 1, x => zTl be sy n x + (if sy n = true ∧ be n = x then 1 else 0)
theorem zTl_congr {be be2 : Nat → Nat} {sy sy2 : Nat → Bool} {x : Nat} : ∀ {n : Nat}, (∀ j, j < n → be j = be2 j ∧ sy j = sy2 j) → zTl be sy n x = zTl be2 sy2 n x
  | 0, _ => rfl
  | n + 1, h => by
    unfold zTl
    rw [zTl_congr (fun j hj => h j (by omega)), (h n (by omega)).1, (h n (by omega)).2]
theorem zNx_ok {nc : Nat} {nr fr : Nat → Nat} {sg : Nat → Option Nat} {kd aim c n : Nat} {cm : Option Nat} (hnc : nc ≤ 8) (hcm : ∀ m, cm = some m → m < 8 ∧ nr (8 * c + m) < 10000) (hsg : ∀ p, sg c = some p → p < 8) (h : zNx nc nr fr sg kd aim c cm = some n) : n < 8 ∧ nr (8 * c + n) < 10000 := by
  have hF : ∀ n, zOnF nc nr c cm = some n → n < 8 ∧ nr (8 * c + n) < 10000 := by
    intro n h
    unfold zOnF at h
    cases e : zLo (zSt nr c cm) nc with
    | none => rw [e] at h; exact hcm n h
    | some k =>
      rw [e] at h
      cases h
      have := zLo_lt e
      have h2 := of_decide_eq_true this.2
      exact ⟨by omega, h2.2⟩
  unfold zNx at h
  by_cases h1 : kd = 1
  · rw [if_pos h1] at h
    unfold zStr at h
    cases e : sg c with
    | none => rw [e] at h; exact hF n h
    | some p =>
      rw [e] at h
      by_cases hp : nr (8 * c + p) < 10000
      · simp only [hp, if_true] at h
        cases h
        exact ⟨hsg n e, hp⟩
      · simp only [hp, if_false] at h
        exact hF n h
  · rw [if_neg h1] at h
    by_cases h3 : kd = 3
    · rw [if_pos h3] at h
      unfold zOnL at h
      cases e : zHi (zSt nr c cm) nc with
      | none => rw [e] at h; exact hcm n h
      | some k =>
        rw [e] at h
        cases h
        have := zHi_lt e
        have h2 := of_decide_eq_true this.2
        exact ⟨by omega, h2.2⟩
    · rw [if_neg h3] at h
      have := zLo_lt h
      have h2 := of_decide_eq_true this.2
      exact ⟨by omega, h2.2.1⟩
/-! the reference's numbers, one set -/
def zuN (s : Nat → Nat → Nat) (a k x : Nat) : Nat → Nat → Nat := va_up s a (va_up (s a) k x)
theorem RefV.u {s : Nat → Nat → Nat} {I : AI} (h : RefV s I) (a k x : Nat) : RefV (zuN s a k x) (zu I a k (nI x)) := by
  intro b j hb
  unfold zuN zu va_up upd
  by_cases e1 : b = a
  · subst e1
    rw [if_pos rfl, if_pos rfl]
    by_cases e2 : j = k
    · rw [if_pos e2, if_pos e2]
    · rw [if_neg e2, if_neg e2]; exact h b j hb
  · rw [if_neg e1, if_neg e1]; exact h b j hb
/-- a write that the numbers do not tell of -/
theorem RefV.o {s : Nat → Nat → Nat} {I : AI} (h : RefV s I) {a k : Nat} {x : Int32} (ha : zrA a = false) : RefV s (zu I a k x) := by
  intro b j hb
  have e1 : ¬ b = a := fun e => by subst e; rw [ha] at hb; cases hb
  unfold zu va_up
  rw [if_neg e1]
  exact h b j hb
/-- the same but where P says -/
def Scr (P : Nat → Nat → Bool) (s s2 : Nat → Nat → Nat) : Prop := ∀ a k, P a k = false → s2 a k = s a k
theorem Scr.rf {P : Nat → Nat → Bool} {s : Nat → Nat → Nat} : Scr P s s := fun _ _ _ => rfl
theorem Scr.u {P : Nat → Nat → Bool} {s s2 : Nat → Nat → Nat} (h : Scr P s s2) {a k x : Nat} (hp : P a k = true) : Scr P s (zuN s2 a k x) := by
  intro b j hb
  unfold zuN va_up
  by_cases e1 : b = a
  · subst e1
    rw [if_pos rfl]
    by_cases e2 : j = k
    · subst e2; rw [hp] at hb; cases hb
    · rw [if_neg e2]; exact h b j hb
  · rw [if_neg e1]; exact h b j hb
theorem Scr.trans {P : Nat → Nat → Bool} {s s2 s3 : Nat → Nat → Nat} (h : Scr P s s2) (h2 : Scr P s2 s3) : Scr P s s3 := fun a k hp => (h2 a k hp).trans (h a k hp)
theorem Scr.mono {P Q : Nat → Nat → Bool} {s s2 : Nat → Nat → Nat} (h : Scr P s s2) (hq : ∀ a k, Q a k = false → P a k = false) : Scr Q s s2 := fun a k hp => h a k (hq a k hp)
/-- what a walk leaves as it was -/
def zFG (I J : AI) : Prop := (∀ a, a ≠ 109 → a ≠ 125 → a ≠ 126 → J a = I a) ∧ ∀ k, (k < 23 ∨ 27 < k) → J 109 k = I 109 k
theorem zFG.rf {I : AI} : zFG I I := ⟨fun _ _ _ _ => rfl, fun _ _ => rfl⟩
theorem zFG.trans {I J K : AI} (h : zFG I J) (h2 : zFG J K) : zFG I K := ⟨fun a h3 h4 h5 => (h2.1 a h3 h4 h5).trans (h.1 a h3 h4 h5), fun k hk => (h2.2 k hk).trans (h.2 k hk)⟩
theorem zFG.f {I J : AI} (h : zFG I J) {k : Nat} {x : Int32} (h1 : 23 ≤ k) (h2 : k ≤ 27) : zFG I (zu J 109 k x) := by
  refine ⟨fun a h3 h4 h5 => ?_, fun j hj => ?_⟩
  · unfold zu va_up; rw [if_neg h3]; exact h.1 a h3 h4 h5
  · unfold zu va_up upd; rw [if_pos rfl, if_neg (by omega)]; exact h.2 j hj
theorem zFG.b {I J : AI} (h : zFG I J) {k : Nat} {x : Int32} : zFG I (zu J 125 k x) := by
  refine ⟨fun a h3 h4 h5 => ?_, fun j hj => ?_⟩
  · unfold zu va_up; rw [if_neg h4]; exact h.1 a h3 h4 h5
  · unfold zu va_up; rw [if_neg (by decide)]; exact h.2 j hj
theorem zFG.t {I J : AI} (h : zFG I J) {k : Nat} {x : Int32} : zFG I (zu J 126 k x) := by
  refine ⟨fun a h3 h4 h5 => ?_, fun j hj => ?_⟩
  · unfold zu va_up; rw [if_neg h5]; exact h.1 a h3 h4 h5
  · unfold zu va_up; rw [if_neg (by decide)]; exact h.2 j hj
theorem zFG.R {s : Nat → Nat → Nat} {I J : AI} (h : zFG I J) (hR : RefV s I) : RefV s J := by
  intro a k ha
  have h1 : a ≠ 109 ∧ a ≠ 125 ∧ a ≠ 126 := by
    simp only [zrA, Bool.and_eq_true, decide_eq_true_eq, Bool.not_eq_true', beq_eq_false_iff_ne, ne_eq] at ha
    omega
  rw [h.1 a h1.1 h1.2.1 h1.2.2]
  exact hR a k ha
/-- the system's cells stay -/
def zFrm (I J : AI) : Prop := ∀ a, a < 109 → J a = I a
theorem zFrm.u {I J : AI} (h : zFrm I J) {a k : Nat} {x : Int32} (ha : 109 ≤ a) : zFrm I (zu J a k x) := by
  intro b hb
  unfold zu va_up
  rw [if_neg (by omega)]
  exact h b hb
theorem zFrm.rf {I : AI} : zFrm I I := fun _ _ => rfl
theorem zFrm.trans {I J K : AI} (h : zFrm I J) (h2 : zFrm J K) : zFrm I K := fun a ha => (h2 a ha).trans (h a ha)
theorem zFG.frm {I J : AI} (h : zFG I J) : zFrm I J := fun a ha => h.1 a (by omega) (by omega) (by omega)
/-- what a walk of the reference needs: rows and rates within bounds, streets both ways -/
def RefT (s : Nat → Nat → Nat) : Prop := RefN s ∧ s 111 0 ≤ 8 ∧ (∀ a b, a < 8 → b < 8 → s 123 (8 * a + b) = s 123 (8 * b + a)) ∧ ∀ k, k < 3 → s 120 k ≤ 9
/-- and of a block of signs -/
def RefS (s : Nat → Nat → Nat) (b : Nat) : Prop := s 122 b ≤ 9 ∧ ∀ k, k < s 122 b → sgC s b k < 8 ∧ sgT s b k < 8 ∧ sgN s b k < 8
/-- a walk by the reference's numbers -/
def zTrS (s : Nat → Nat → Nat) (b kd fm aim told : Nat) : ZT := zTrip (zNx (s 111 0) (s 123) (s 124) (sgAt s b aim) kd aim) (fun c n => zOnB (s 123) (s 124) c n told) (s 123) kd (s 120 0) (s 120 1) (s 120 2) aim fm
theorem zu_s (I : AI) (a k : Nat) (x : Int32) : zu I a k x a k = x := by simp [zu, va_up, upd]
theorem zu_n (I : AI) {a k j : Nat} (x : Int32) (h : j ≠ k) : zu I a k x a j = I a j := by simp [zu, va_up, upd, h]
theorem zu_o (I : AI) {a b k : Nat} (x : Int32) (h : b ≠ a) : zu I a k x b = I b := by simp [zu, va_up, h]
/-- behind a walk T to aim a -/
abbrev zGoP (T : ZT) (a : Nat) (I J : AI) : Prop := zFG I J ∧ J 109 23 = nI T.1 ∧ J 109 24 = nI T.2.1 ∧ J 109 25 = nI T.2.2.1 ∧ J 109 26 = nI T.2.2.2.1 ∧ J 109 27 = zb (decide (T.2.2.2.2.1 = a)) ∧ (∀ k, k ≤ 30 → J 125 k = nI (zAt T k)) ∧ ∀ x, J 126 x = I 126 x + nI (zTl T.2.2.2.2.2.2.1 T.2.2.2.2.2.2.2 T.1 x)
/-- walker i by the signs and what is told of block b -/
def zTw (s : Nat → Nat → Nat) (b i : Nat) : ZT := zTrS s b (s 117 i) (s 118 i) (s 119 i) (s 122 (b + 28 + i))
/-- all of the first n together -/
def zSum (f : Nat → Nat) : Nat → Nat
  | 0 => 0
  | n + 1 => zSum f n + f n
theorem zSum_congr {f g : Nat → Nat} : ∀ {n : Nat}, (∀ i, i < n → f i = g i) → zSum f n = zSum g n
  | 0, _ => rfl
  | n + 1, h => by
    unfold zSum
    rw [zSum_congr (fun i hi => h i (by omega)), h n (by omega)]
/-- what the walkers of the reference are -/
def RefP (s : Nat → Nat → Nat) : Prop := s 116 0 ≤ 4 ∧ ∀ i, i < s 116 0 → s 117 i < 4 ∧ s 118 i < 8 ∧ s 119 i < 8
/-- a block: its signs and what is told -/
def RefK (s : Nat → Nat → Nat) (b : Nat) : Prop := RefS s b ∧ ∀ i, i < s 116 0 → s 122 (b + 28 + i) < 8
/-- how many wrong steps begin at x, of the first n walkers -/
abbrev zTlW (s : Nat → Nat → Nat) (b x i : Nat) : Nat := zTl (zTw s b i).2.2.2.2.2.2.1 (zTw s b i).2.2.2.2.2.2.2 (zTw s b i).1 x
abbrev zTxW (s : Nat → Nat → Nat) (b i : Nat) : Nat := (zTw s b i).2.2.2.1
theorem zGo_inv {nx : Nat → Option Nat → Option Nat} {on : Nat → Nat → Bool} {nr : Nat → Nat} {kd r0 r1 r2 aim : Nat} (h0 : r0 ≤ 9) (h1 : r1 ≤ 9) (h2 : r2 ≤ 9) {V : Nat → Option Nat → Prop} (hnx : ∀ c cm n, V c cm → nx c cm = some n → n < 8 ∧ V n (some c)) : ∀ (f st mi wr tx c : Nat) (cm : Option Nat) (be : Nat → Nat) (sy : Nat → Bool), c < 8 → V c cm → (∀ j, be j < 8) → (fun T : ZT => T.1 ≤ st + f ∧ T.2.2.2.2.1 < 8 ∧ (∀ j, T.2.2.2.2.2.2.1 j < 8) ∧ T.2.2.2.1 ≤ tx + 27 * f) (zGo nx on nr kd r0 r1 r2 aim f st mi wr tx c cm be sy)
  | 0, st, mi, wr, tx, c, cm, be, sy, hc, _, hb => by simp only [zGo]; exact ⟨by omega, hc, hb, by omega⟩
  | f + 1, st, mi, wr, tx, c, cm, be, sy, hc, hv, hb => by
    by_cases ha : c = aim
    · rw [zGo_aim ha]
      exact ⟨by simp only []; omega, hc, hb, by simp only []; omega⟩
    · cases hn : nx c cm with
      | none =>
        rw [zGo_none hn]
        exact ⟨by simp only []; omega, hc, hb, by simp only []; omega⟩
      | some n =>
        rw [zGo_some ha hn]
        have h := zGo_inv (on := on) (nr := nr) (kd := kd) (aim := aim) h0 h1 h2 hnx f (st + 1) (mi + (nr (8 * c + n) + (if kd = 2 then 1 else 0))) (wr + (if on c n = true then 0 else 1)) (tx + (if kd = 2 then r2 else 0) + (if on c n = true then 0 else (r0 + (if some n = cm then r1 else 0)))) n (some c) (va_up be (st + 1) n) (va_up sy st (!on c n)) (hnx c cm n hv hn).1 (hnx c cm n hv hn).2 (fun j => by
          by_cases e : j = st + 1
          · rw [e, va_up_s]; exact (hnx c cm n hv hn).1
          · rw [va_up_n _ _ e]; exact hb j)
        have h5 : (if kd = 2 then r2 else 0) ≤ 9 := by split <;> omega
        have h6 : (if on c n = true then 0 else (r0 + (if some n = cm then r1 else 0))) ≤ 18 := by
          split
          · omega
          · split <;> omega
        have h7 := h.1
        have h8 := h.2.2.2
        exact ⟨by omega, h.2.1, h.2.2.1, by omega⟩
theorem zTrS_inv {s : Nat → Nat → Nat} {b kd fm aim to : Nat} (hT : RefT s) (hS : RefS s b) (hfm : fm < 8) : (fun T : ZT => T.1 ≤ 30 ∧ T.2.2.2.2.1 < 8 ∧ (∀ j, T.2.2.2.2.2.2.1 j < 8) ∧ T.2.2.2.1 ≤ 810) (zTrS s b kd fm aim to) := by
  have h := zGo_inv (nx := zNx (s 111 0) (s 123) (s 124) (sgAt s b aim) kd aim) (on := fun c n => zOnB (s 123) (s 124) c n to) (nr := s 123) (kd := kd) (aim := aim) (hT.2.2.2 0 (by omega)) (hT.2.2.2 1 (by omega)) (hT.2.2.2 2 (by omega)) (V := fun c cm => c < 8 ∧ ∀ m, cm = some m → m < 8 ∧ s 123 (8 * c + m) < 10000) (fun c cm n hv hn => by
    have h1 := zNx_ok hT.2.1 hv.2 (fun p e => zSign_lt (b := 8) (fun j hj => (hS.2 j hj).2.2) e) hn
    refine ⟨h1.1, h1.1, fun m hm => ?_⟩
    cases hm
    exact ⟨hv.1, by rw [hT.2.2.1 n c h1.1 hv.1]; exact h1.2⟩) 30 0 0 0 0 fm none (fun _ => fm) (fun _ => false) hfm ⟨hfm, fun m hm => by cases hm⟩ (fun _ => hfm)
  exact ⟨Nat.le_trans h.1 (by omega), h.2.1, h.2.2.1, Nat.le_trans h.2.2.2 (by omega)⟩
theorem zAt_lt {T : ZT} (h1 : T.2.2.2.2.1 < 8) (h2 : ∀ j, T.2.2.2.2.2.2.1 j < 8) (k : Nat) : zAt T k < 8 := by
  unfold zAt
  split
  · exact h2 k
  · exact h1
/-- whence he came to where he is behind k steps -/
def zCm (T : ZT) (k : Nat) : Option Nat := if k = 0 then none else some (zAt T (k - 1))
abbrev zRj (T : ZT) (k j : Nat) : Bool := decide (zAt T k = zAt T j ∧ zCm T k = zCm T j)
/-- the first step at which he is where he was, come from the same corner -/
def zRd (T : ZT) : Option Nat := zLo (fun k => (zLo (zRj T k) k).isSome) (T.1 + 1)
/-! what the reference answers -/
def aFar (s : Nat → Nat → Nat) (x y : Int32) : Int32 := if zix x (s 111 0) = true ∧ zix y (s 111 0) = true then (if s 124 (8 * x.toNatClampNeg + y.toNatClampNeg) < 10000 then nI (s 124 (8 * x.toNatClampNeg + y.toNatClampNeg)) else -4) else -1
def aStreet (s : Nat → Nat → Nat) (x y : Int32) : Int32 := if zix x (s 111 0) = true ∧ zix y (s 111 0) = true then (if s 123 (8 * x.toNatClampNeg + y.toNatClampNeg) = 10000 then -4 else nI (s 123 (8 * x.toNatClampNeg + y.toNatClampNeg))) else -1
def aSign (s : Nat → Nat → Nat) (x y : Int32) : Int32 := if zix x (s 122 0) = true ∧ zix y 3 = true then nI (s 122 (1 + 3 * x.toNatClampNeg + y.toNatClampNeg)) else -1
def aWalker (s : Nat → Nat → Nat) (x y : Int32) : Int32 := if zix x (s 116 0) = true ∧ zix y 4 = true then (if y.toNatClampNeg = 0 then nI (s 117 x.toNatClampNeg) else if y.toNatClampNeg = 1 then nI (s 118 x.toNatClampNeg) else if y.toNatClampNeg = 2 then nI (s 119 x.toNatClampNeg) else nI (s 122 (28 + x.toNatClampNeg))) else -1
def aWalk (s : Nat → Nat → Nat) (x y : Int32) : Int32 := if zix x (s 116 0) = true ∧ zix y 31 = true then nI (zAt (zTw s 0 x.toNatClampNeg) y.toNatClampNeg) else -1
def aWay (s : Nat → Nat → Nat) (x y : Int32) : Int32 := if zix x (s 116 0) = true ∧ zix y 5 = true then (fun T : ZT => if y.toNatClampNeg = 0 then nI T.1 else if y.toNatClampNeg = 1 then nI T.2.1 else if y.toNatClampNeg = 2 then nI T.2.2.1 else if y.toNatClampNeg = 3 then nI T.2.2.2.1 else zb (decide (T.2.2.2.2.1 = s 119 x.toNatClampNeg))) (zTw s 0 x.toNatClampNeg) else -1
def aRound (s : Nat → Nat → Nat) (x : Int32) : Int32 := if zix x (s 116 0) = true then zo (-4) (zRd (zTw s 0 x.toNatClampNeg)) else -1
