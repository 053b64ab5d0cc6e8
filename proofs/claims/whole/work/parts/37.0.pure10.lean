/-! PURE: items -/
def dC (s : Nat → Nat → Nat) (v : Nat) : Nat → Nat → Nat := zuN s 111 1 v
def dS (s : Nat → Nat → Nat) (a b l : Nat) : Nat → Nat → Nat := zuN (zuN (zuN (zuN s 113 (12 + s 112 1) a) 114 (12 + s 112 1) b) 115 (12 + s 112 1) l) 112 1 (s 112 1 + 1)
def dG (s : Nat → Nat → Nat) (c t n : Nat) : Nat → Nat → Nat := zuN (zuN (zuN (zuN s 121 (3 * s 109 13) c) 121 (3 * s 109 13 + 1) t) 121 (3 * s 109 13 + 2) n) 109 13 (s 109 13 + 1)
def dW (s : Nat → Nat → Nat) (k f a : Nat) : Nat → Nat → Nat := zuN (zuN (zuN (zuN s 117 (4 + s 116 1) k) 118 (4 + s 116 1) f) 119 (4 + s 116 1) a) 116 1 (s 116 1 + 1)
def dR (s : Nat → Nat → Nat) (r d q : Nat) : Nat → Nat → Nat := zuN (zuN (zuN s 120 3 r) 120 4 d) 120 5 q
/-- no street between a and b among the first k of the draft -/
def zDup (s : Nat → Nat → Nat) (a b : Nat) : Nat → Bool
  | 0 => true
  | k + 1 => zDup s a b k && !(decide ((s 113 (12 + k) = a ∧ s 114 (12 + k) = b) ∨ (s 113 (12 + k) = b ∧ s 114 (12 + k) = a)))
abbrev zv1 (s : Nat → Nat → Nat) (p : Nat) : Nat := (zNum (s 110) (s 109 1) p).2
abbrev zn1 (s : Nat → Nat → Nat) (p : Nat) : Nat := p + (zNum (s 110) (s 109 1) p).1 + 1
abbrev zk1 (s : Nat → Nat → Nat) (p lo hi be : Nat) : Bool := zNok (s 110) (s 109 1) p lo hi be
/-- an item at p: whether it is so; how the draft stands behind it, where the next begins, whether only corners were told -/
def okC (s : Nat → Nat → Nat) (f : Bool) (p : Nat) : Bool := f && zk1 s (p + 1) 1 8 59
def okS (s : Nat → Nat → Nat) (p : Nat) : Bool := ((((decide (s 112 1 < 12) && zk1 s (p + 1) 0 (s 111 1 - 1) 44) && zk1 s (zn1 s (p + 1)) 0 (s 111 1 - 1) 44) && zk1 s (zn1 s (zn1 s (p + 1))) 1 20 59) && decide (¬ zv1 s (p + 1) = zv1 s (zn1 s (p + 1)))) && zDup s (zv1 s (p + 1)) (zv1 s (zn1 s (p + 1))) (s 112 1)
def okG (s : Nat → Nat → Nat) (p : Nat) : Bool := ((decide (s 109 13 < 8) && zk1 s (p + 1) 0 (s 111 1 - 1) 44) && zk1 s (zn1 s (p + 1)) 0 (s 111 1 - 1) 44) && zk1 s (zn1 s (zn1 s (p + 1))) 0 (s 111 1 - 1) 59
def okW (s : Nat → Nat → Nat) (p : Nat) : Bool := ((decide (s 116 1 < 4) && zk1 s (p + 1) 0 3 44) && zk1 s (zn1 s (p + 1)) 0 (s 111 1 - 1) 44) && zk1 s (zn1 s (zn1 s (p + 1))) 0 (s 111 1 - 1) 59
def okR (s : Nat → Nat → Nat) (p : Nat) : Bool := ((true && zk1 s (p + 1) 0 9 44) && zk1 s (zn1 s (p + 1)) 0 9 44) && zk1 s (zn1 s (zn1 s (p + 1))) 0 9 59
abbrev zq3 (s : Nat → Nat → Nat) (p : Nat) : Nat := zn1 s (zn1 s (zn1 s (p + 1)))
def zItem (s : Nat → Nat → Nat) (f : Bool) (p : Nat) : Option ((Nat → Nat → Nat) × Nat × Bool) :=
  if s 110 p = 99 then (if okC s f p = true then some (dC s (zv1 s (p + 1)), zn1 s (p + 1), f) else none)
  else if s 110 p = 115 then (if okS s p = true then some (dS s (zv1 s (p + 1)) (zv1 s (zn1 s (p + 1))) (zv1 s (zn1 s (zn1 s (p + 1)))), zq3 s p, false) else none)
  else if s 110 p = 103 then (if okG s p = true then some (dG s (zv1 s (p + 1)) (zv1 s (zn1 s (p + 1))) (zv1 s (zn1 s (zn1 s (p + 1)))), zq3 s p, false) else none)
  else if s 110 p = 119 then (if okW s p = true then some (dW s (zv1 s (p + 1)) (zv1 s (zn1 s (p + 1))) (zv1 s (zn1 s (zn1 s (p + 1)))), zq3 s p, false) else none)
  else if s 110 p = 114 then (if okR s p = true then some (dR s (zv1 s (p + 1)) (zv1 s (zn1 s (p + 1))) (zv1 s (zn1 s (zn1 s (p + 1)))), zq3 s p, false) else none)
  else none
/-- the draft's places -/
def zDr (a k : Nat) : Bool := (a == 109 && decide (13 ≤ k) && decide (k ≤ 16)) || ((a == 111 || a == 112 || a == 116) && k == 1) || ((a == 113 || a == 114 || a == 115) && decide (12 ≤ k)) || ((a == 117 || a == 118 || a == 119) && decide (4 ≤ k)) || (a == 120 && decide (3 ≤ k)) || a == 121
theorem Scr_u {s s2 : Nat → Nat → Nat} (h : Scr zDr s s2) {a k x : Nat} (hp : zDr a k = true) : Scr zDr s (zuN s2 a k x) := h.u hp
/-- how a draft may stand -/
def DrOk (s : Nat → Nat → Nat) : Prop := 1 ≤ s 111 1 ∧ s 111 1 ≤ 8 ∧ s 112 1 ≤ 12 ∧ s 109 13 ≤ 8 ∧ s 116 1 ≤ 4 ∧ (∀ k, k < s 112 1 → s 113 (12 + k) < 8 ∧ s 114 (12 + k) < 8)
/-- the reader's standing: rows, draft, place, so or not, only corners or not -/
def RefR (s : Nat → Nat → Nat) (I : AI) (p : Nat) (b f : Bool) : Prop := RefV s I ∧ I 109 1 = nI (s 109 1) ∧ I 109 13 = nI (s 109 13) ∧ I 109 14 = nI p ∧ I 109 15 = zb b ∧ I 109 16 = zb f
/-- but for the reader's own places nothing moved that the rows do not tell -/
def zFW (I J : AI) : Prop := (∀ a, a < 109 → J a = I a) ∧ (J 125 = I 125 ∧ J 126 = I 126 ∧ J 127 = I 127) ∧ ∀ k, (k < 13 ∨ 16 < k) → J 109 k = I 109 k
theorem zFW.rf {I : AI} : zFW I I := ⟨fun _ _ => rfl, ⟨rfl, rfl, rfl⟩, fun _ _ => rfl⟩
theorem zFW.trans {I J K : AI} (h : zFW I J) (h2 : zFW J K) : zFW I K := ⟨fun a ha => (h2.1 a ha).trans (h.1 a ha), ⟨h2.2.1.1.trans h.2.1.1, h2.2.1.2.1.trans h.2.1.2.1, h2.2.1.2.2.trans h.2.1.2.2⟩, fun k hk => (h2.2.2 k hk).trans (h.2.2 k hk)⟩
theorem zFW.u {I J : AI} (h : zFW I J) {a k : Nat} {x : Int32} (ha : (110 ≤ a ∧ a ≠ 125 ∧ a ≠ 126 ∧ a ≠ 127) ∨ (a = 109 ∧ 13 ≤ k ∧ k ≤ 16)) : zFW I (zu J a k x) := by
  refine ⟨fun b hb => by rw [zu_o _ _ (by omega)]; exact h.1 b hb, ⟨by rw [zu_o _ _ (by omega)]; exact h.2.1.1, by rw [zu_o _ _ (by omega)]; exact h.2.1.2.1, by rw [zu_o _ _ (by omega)]; exact h.2.1.2.2⟩, fun j hj => ?_⟩
  by_cases e : a = 109
  · subst e; rw [zu_n _ _ (by omega)]; exact h.2.2 j hj
  · rw [zu_o _ _ (by omega)]; exact h.2.2 j hj
theorem zFN.W {I J : AI} (h : zFN I J) : zFW I J := ⟨fun a ha => h.1 a (by omega), ⟨h.1 125 (by decide), h.1 126 (by decide), h.1 127 (by decide)⟩, fun k hk => h.2 k (by omega) (by omega)⟩
theorem zFN.V {s : Nat → Nat → Nat} {I J : AI} (h : zFN I J) (hR : RefV s I) : RefV s J := by
  intro a k ha
  rw [h.1 a (fun e => by subst e; cases ha)]
  exact hR a k ha
theorem RefR.X {s : Nat → Nat → Nat} {I : AI} {p : Nat} {b f : Bool} (h : RefR s I p b f) (ht : s 109 1 ≤ 200) (hx : ∀ k, k < s 109 1 → s 110 k ≤ 126) : RefX (s 110) (s 109 1) I := ⟨h.2.1, ht, fun k => h.1 110 k rfl, hx⟩
/-- behind a number -/
theorem RefR.num {s : Nat → Nat → Nat} {I J : AI} {p : Nat} {b f b2 : Bool} {p2 : Nat} (h : RefR s I p b f) (h2 : zFN I J) (h3 : J 109 14 = nI p2) (h4 : J 109 15 = zb b2) : RefR s J p2 b2 f := ⟨h2.V h.1, by rw [h2.2 1 (by decide) (by decide)]; exact h.2.1, by rw [h2.2 13 (by decide) (by decide)]; exact h.2.2.1, h3, h4, by rw [h2.2 16 (by decide) (by decide)]; exact h.2.2.2.2.2⟩
