/-! PURE: reading a text -/
/-- the letter at a place -/
def zCh (tx : Nat → Nat) (tn p : Nat) : Option Nat := if p < tn then some (tx p) else none
/-- the figure there -/
def zDg (tx : Nat → Nat) (tn p : Nat) : Option Nat := match zCh tx tn p with
  | some c => if 48 ≤ c ∧ c ≤ 57 then some (c - 48) else none
  | none => none
/-- a number of one or two figures: how many, which -/
def zNum (tx : Nat → Nat) (tn p : Nat) : Nat × Nat := match zDg tx tn p with
  | none => (0, 0)
  | some a => match zDg tx tn (p + 1) with
    | none => (1, a)
    | some b => (2, 10 * a + b)
/-- where what stands behind the number begins -/
abbrev zNe (tx : Nat → Nat) (tn p : Nat) : Nat := p + (zNum tx tn p).1
/-- it is one, within, and that letter stands behind -/
def zNok (tx : Nat → Nat) (tn p lo hi be : Nat) : Bool := decide (0 < (zNum tx tn p).1) && (decide (lo ≤ (zNum tx tn p).2 ∧ (zNum tx tn p).2 ≤ hi) && decide (zCh tx tn (zNe tx tn p) = some be))
theorem zNum_le (tx : Nat → Nat) (tn p : Nat) : (zNum tx tn p).1 ≤ 2 ∧ (zNum tx tn p).2 ≤ 99 := by
  have h : ∀ q a, zDg tx tn q = some a → a ≤ 9 := by
    intro q a e
    unfold zDg at e
    cases hc : zCh tx tn q with
    | none => rw [hc] at e; cases e
    | some c =>
      rw [hc] at e
      simp only [] at e
      split at e
      · cases e; omega
      · cases e
  unfold zNum
  cases e : zDg tx tn p with
  | none => exact ⟨by simp, by simp⟩
  | some a =>
    have h1 := h _ _ e
    cases e2 : zDg tx tn (p + 1) with
    | none => exact ⟨by simp, by simp; omega⟩
    | some b => have h2 := h _ _ e2; exact ⟨by simp, by simp; omega⟩
theorem zDg_no {tx : Nat → Nat} {tn p : Nat} (h : zCh tx tn p = none) : zDg tx tn p = none := by unfold zDg; rw [h]
theorem zDg_bad {tx : Nat → Nat} {tn p c : Nat} (h : zCh tx tn p = some c) (hc : ¬ (48 ≤ c ∧ c ≤ 57)) : zDg tx tn p = none := by unfold zDg; rw [h]; simp only []; rw [if_neg hc]
theorem zDg_ok {tx : Nat → Nat} {tn p c : Nat} (h : zCh tx tn p = some c) (hc : 48 ≤ c ∧ c ≤ 57) : zDg tx tn p = some (c - 48) := by unfold zDg; rw [h]; simp only []; rw [if_pos hc]
theorem zNum_0 {tx : Nat → Nat} {tn p : Nat} (h : zDg tx tn p = none) : zNum tx tn p = (0, 0) := by unfold zNum; rw [h]
theorem zNum_1 {tx : Nat → Nat} {tn p a : Nat} (h : zDg tx tn p = some a) (h2 : zDg tx tn (p + 1) = none) : zNum tx tn p = (1, a) := by unfold zNum; rw [h]; simp only []; rw [h2]
theorem zNum_2 {tx : Nat → Nat} {tn p a b : Nat} (h : zDg tx tn p = some a) (h2 : zDg tx tn (p + 1) = some b) : zNum tx tn p = (2, 10 * a + b) := by unfold zNum; rw [h]; simp only []; rw [h2]
/-- the places that a walk of the reader writes in the reference's object -/
def zFN (I J : AI) : Prop := (∀ a, a ≠ 109 → J a = I a) ∧ ∀ k, k ≠ 14 → k ≠ 15 → J 109 k = I 109 k
/-- the text, as the reference holds it -/
def RefX (tx : Nat → Nat) (tn : Nat) (I : AI) : Prop := I 109 1 = nI tn ∧ tn ≤ 200 ∧ (∀ k, I 110 k = nI (tx k)) ∧ ∀ k, k < tn → tx k ≤ 126
theorem RefX.go {tx : Nat → Nat} {tn : Nat} {I J : AI} (h : RefX tx tn I) (h2 : zFN I J) : RefX tx tn J := ⟨by rw [h2.2 1 (by decide) (by decide)]; exact h.1, h.2.1, fun k => by rw [h2.1 110 (by decide)]; exact h.2.2.1 k, h.2.2.2⟩
theorem zFN.rf {I : AI} : zFN I I := ⟨fun _ _ => rfl, fun _ _ _ => rfl⟩
theorem zFN.trans {I J K : AI} (h : zFN I J) (h2 : zFN J K) : zFN I K := ⟨fun a ha => (h2.1 a ha).trans (h.1 a ha), fun k h3 h4 => (h2.2 k h3 h4).trans (h.2 k h3 h4)⟩
theorem zFN.f {I J : AI} (h : zFN I J) {k : Nat} {x : Int32} (hk : k = 14 ∨ k = 15) : zFN I (zu J 109 k x) := ⟨fun a ha => by rw [zu_o _ _ ha]; exact h.1 a ha, fun j h1 h2 => by rw [zu_n _ _ (by omega)]; exact h.2 j h1 h2⟩
theorem zCh_lt {tx : Nat → Nat} {tn p c : Nat} (hx : ∀ k, k < tn → tx k ≤ 126) (h : zCh tx tn p = some c) : c ≤ 126 := by
  unfold zCh at h
  by_cases e : p < tn
  · rw [if_pos e] at h; cases h; exact hx p e
  · rw [if_neg e] at h; cases h
