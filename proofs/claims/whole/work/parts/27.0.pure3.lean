/-! PURE: blocks of signs and aims told, in the row 122 -/
def zCopy (f : Nat → Nat) (a b : Nat) : Nat → Nat := fun k => if b ≤ k ∧ k < b + 32 then f (a + (k - b)) else f k
def zShift (f : Nat → Nat) : Nat → Nat := fun k => if 32 ≤ k ∧ k < 256 then f (k + 32) else f k
/-- the state as it stands is noted behind the last d (of 8) -/
def zKnow (f : Nat → Nat) (d : Nat) : Nat → Nat := if d = 8 then zCopy (zShift f) 0 256 else zCopy f 0 (32 + 32 * d)
def zKd (d : Nat) : Nat := if d = 8 then 8 else d + 1
def zPutUp (f : Nat → Nat) (b c t n : Nat) : Nat → Nat := va_up (va_up (va_up (va_up f (b + 1 + 3 * f b) c) (b + 1 + 3 * f b + 1) t) (b + 1 + 3 * f b + 2) n) b (f b + 1)
def zTakeDown (f : Nat → Nat) (b k : Nat) : Nat → Nat := fun j => if j = b then f b - 1 else if b + 1 + 3 * k ≤ j ∧ j < b + 1 + 3 * f b - 3 then f (j + 3) else f j
/-- rows but 122 stay; 122 is g -/
def zF1 (I J : AI) (g : Nat → Nat) : Prop := (∀ a, a ≠ 122 → J a = I a) ∧ ∀ j, J 122 j = nI (g j)
/-- and the deeds are d -/
def zF2 (I J : AI) (g : Nat → Nat) (d : Nat) : Prop := (∀ a, a ≠ 122 → a ≠ 109 → J a = I a) ∧ (∀ k, k ≠ 18 → J 109 k = I 109 k) ∧ J 109 18 = nI d ∧ ∀ j, J 122 j = nI (g j)
def zfk (k : Nat) : Bool := k == 1 || k == 18 || k == 19 || k == 33
/-- the reference stands as s says -/
def RefA (s : Nat → Nat → Nat) (I : AI) : Prop := RefV s I ∧ ∀ k, zfk k = true → I 109 k = nI (s 109 k)
theorem zF1.R {s : Nat → Nat → Nat} {I J : AI} {g : Nat → Nat} (h : zF1 I J g) (hR : RefA s I) : RefA (va_up s 122 g) J := by
  refine ⟨fun a k ha => ?_, fun k hk => ?_⟩
  · by_cases e : a = 122
    · subst e; rw [va_up_s]; exact h.2 k
    · rw [va_up_n _ _ e, h.1 a e]; exact hR.1 a k ha
  · rw [va_up_n _ _ (by decide), h.1 109 (by decide)]; exact hR.2 k hk
theorem zF1.frm {I J : AI} {g : Nat → Nat} (h : zF1 I J g) : zFrm I J := fun a ha => h.1 a (by omega)
def sSet (s : Nat → Nat → Nat) (g : Nat → Nat) (d : Nat) : Nat → Nat → Nat := va_up (va_up s 122 g) 109 (va_up (s 109) 18 d)
theorem zF2.R {s : Nat → Nat → Nat} {I J : AI} {g : Nat → Nat} {d : Nat} (h : zF2 I J g d) (hR : RefA s I) : RefA (sSet s g d) J := by
  refine ⟨fun a k ha => ?_, fun k hk => ?_⟩
  · have h9 : a ≠ 109 := fun e => by subst e; cases ha
    unfold sSet
    rw [va_up_n _ _ h9]
    by_cases e : a = 122
    · subst e; rw [va_up_s]; exact h.2.2.2 k
    · rw [va_up_n _ _ e, h.1 a e h9]; exact hR.1 a k ha
  · unfold sSet
    rw [va_up_s]
    by_cases e : k = 18
    · subst e; rw [va_up_s]; exact h.2.2.1
    · rw [va_up_n _ _ e, h.2.1 k e]; exact hR.2 k hk
theorem zF2.frm {I J : AI} {g : Nat → Nat} {d : Nat} (h : zF2 I J g d) : zFrm I J := fun a ha => h.1 a (by omega) (by omega)
theorem zF2.then {I J K : AI} {g g2 : Nat → Nat} {d : Nat} (h : zF2 I J g d) (h2 : zF1 J K g2) : zF2 I K g2 d := ⟨fun a h3 h4 => (h2.1 a h3).trans (h.1 a h3 h4), fun k hk => by rw [h2.1 109 (by decide)]; exact h.2.1 k hk, by rw [h2.1 109 (by decide)]; exact h.2.2.1, h2.2⟩
theorem zFG.A {s : Nat → Nat → Nat} {I J : AI} (h : zFG I J) (hR : RefA s I) : RefA s J := ⟨h.R hR.1, fun k hk => by
  have hk2 : k < 23 ∨ 27 < k := by
    simp only [zfk, Bool.or_eq_true, beq_iff_eq] at hk
    omega
  rw [h.2 k hk2]
  exact hR.2 k hk⟩
