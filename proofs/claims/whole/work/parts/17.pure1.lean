/-! PURE: the walks, as both sides reckon them -/
/-- the least number below n with P -/
def zLo (P : Nat → Bool) : Nat → Option Nat
  | 0 => none
  | n + 1 => match zLo P n with
    | some k => some k
    | none => if P n = true then some n else none
/-- the greatest number below n with P -/
def zHi (P : Nat → Bool) : Nat → Option Nat
  | 0 => none
  | n + 1 => if P n = true then some n else zHi P n
theorem zLo_none {P : Nat → Bool} : ∀ {n : Nat}, (∀ j, j < n → P j = false) → zLo P n = none
  | 0, _ => rfl
  | n + 1, h => by
    unfold zLo
    rw [zLo_none (fun j hj => h j (by omega))]
    simp [h n (by omega)]
theorem zLo_some {P : Nat → Bool} : ∀ {n k : Nat}, k < n → P k = true → (∀ j, j < k → P j = false) → zLo P n = some k
  | 0, k, h, _, _ => by omega
  | n + 1, k, h, hP, hj => by
    unfold zLo
    by_cases hk : k < n
    · rw [zLo_some hk hP hj]
    · have : k = n := by omega
      subst this
      rw [zLo_none hj]
      simp [hP]
theorem zLo_lt {P : Nat → Bool} : ∀ {n k : Nat}, zLo P n = some k → k < n ∧ P k = true
  | 0, k, h => by cases h
  | n + 1, k, h => by
    unfold zLo at h
    cases e : zLo P n with
    | some j =>
      rw [e] at h
      cases h
      have := zLo_lt e
      exact ⟨by omega, this.2⟩
    | none =>
      rw [e] at h
      by_cases hp : P n = true
      · simp only [hp, if_true] at h
        cases h
        exact ⟨by omega, hp⟩
      · simp [hp] at h
theorem zHi_lt {P : Nat → Bool} : ∀ {n k : Nat}, zHi P n = some k → k < n ∧ P k = true
  | 0, k, h => by cases h
  | n + 1, k, h => by
    unfold zHi at h
    by_cases hp : P n = true
    · rw [if_pos hp] at h
      cases h
      exact ⟨by omega, hp⟩
    · rw [if_neg hp] at h
      have := zHi_lt h
      exact ⟨by omega, this.2⟩
theorem zHi_none {P : Nat → Bool} : ∀ {n : Nat}, (∀ j, j < n → P j = false) → zHi P n = none
  | 0, _ => rfl
  | n + 1, h => by
    unfold zHi
    rw [if_neg (by rw [h n (by omega)]; decide)]
    exact zHi_none (fun j hj => h j (by omega))
theorem zHi_some {P : Nat → Bool} : ∀ {n k : Nat}, k < n → P k = true → (∀ j, k < j → j < n → P j = false) → zHi P n = some k
  | 0, k, h, _, _ => by omega
  | n + 1, k, h, hP, hj => by
    unfold zHi
    by_cases hk : k = n
    · subst hk
      rw [if_pos hP]
    · rw [if_neg (by rw [hj n (by omega) (by omega)]; decide)]
      exact zHi_some (by omega) hP (fun j h1 h2 => hj j h1 (by omega))
theorem zLo_congr {P Q : Nat → Bool} : ∀ {n : Nat}, (∀ j, j < n → P j = Q j) → zLo P n = zLo Q n
  | 0, _ => rfl
  | n + 1, h => by
    unfold zLo
    rw [zLo_congr (fun j hj => h j (by omega)), h n (by omega)]
theorem zHi_congr {P Q : Nat → Bool} : ∀ {n : Nat}, (∀ j, j < n → P j = Q j) → zHi P n = zHi Q n
  | 0, _ => rfl
  | n + 1, h => by
    unfold zHi
    rw [zHi_congr (fun j hj => h j (by omega)), h n (by omega)]
/-- a number, or a sign that there is none -/
def zo (k : Int32) (o : Option Nat) : Int32 := match o with
  | none => k
  | some n => nI n
/-- where the latest of the first n signs for (c, a) points -/
def zSign (gc gt gn : Nat → Nat) (c a : Nat) : Nat → Option Nat
  | 0 => none
  | n + 1 => if gc n = c ∧ gt n = a then some (gn n) else zSign gc gt gn c a n
theorem zSign_lt {gc gt gn : Nat → Nat} {c a b : Nat} : ∀ {n p : Nat}, (∀ k, k < n → gn k < b) → zSign gc gt gn c a n = some p → p < b
  | 0, p, _, h => by cases h
  | n + 1, p, hb, h => by
    unfold zSign at h
    by_cases e : gc n = c ∧ gt n = a
    · rw [if_pos e] at h
      cases h
      exact hb n (by omega)
    · rw [if_neg e] at h
      exact zSign_lt (fun k hk => hb k (by omega)) h
/-- a corner by a street that isn't the one he came from -/
abbrev zSt (nr : Nat → Nat) (c : Nat) (cm : Option Nat) (n : Nat) : Bool := decide (¬ some n = cm ∧ nr (8 * c + n) < 10000)
/-- on from c: the first or the last other one, else back -/
def zOnF (nc : Nat) (nr : Nat → Nat) (c : Nat) (cm : Option Nat) : Option Nat := match zLo (zSt nr c cm) nc with
  | some n => some n
  | none => cm
def zOnL (nc : Nat) (nr : Nat → Nat) (c : Nat) (cm : Option Nat) : Option Nat := match zHi (zSt nr c cm) nc with
  | some n => some n
  | none => cm
def zStr (nc : Nat) (nr : Nat → Nat) (g : Option Nat) (c : Nat) (cm : Option Nat) : Option Nat := match g with
  | some p => if nr (8 * c + p) < 10000 then some p else zOnF nc nr c cm
  | none => zOnF nc nr c cm
/-- the next corner, by kind; sg: what the signs say at a corner -/
def zNx (nc : Nat) (nr fr : Nat → Nat) (sg : Nat → Option Nat) (kd aim c : Nat) (cm : Option Nat) : Option Nat :=
  if kd = 1 then zStr nc nr (sg c) c cm else if kd = 3 then zOnL nc nr c cm else zLo (fun n => zOnB nr fr c n aim) nc
