/-! PURE: bits, picks, sums, draws -/
def zBits (P : Nat → Bool) : Nat → Int32
  | 0 => nI 0
  | n + 1 => zBits P n ||| (if P n = true then nI 1 <<< (nI n &&& 31) else nI 0)
theorem zBits_congr {P Q : Nat → Bool} : ∀ {n : Nat}, (∀ j, j < n → P j = Q j) → zBits P n = zBits Q n
  | 0, _ => rfl
  | n + 1, h => by
    unfold zBits
    rw [zBits_congr (fun j hj => h j (by omega)), h n (by omega)]
/-- the first of the least, of the first n -/
def zPkL (f : Nat → Int32) : Nat → Option (Nat × Int32)
  | 0 => none
  | n + 1 => match zPkL f n with
    | none => some (n, f n)
    | some (k, v) => if f n < v then some (n, f n) else some (k, v)
/-- the first of the most -/
def zPkM (f : Nat → Int32) : Nat → Option (Nat × Int32)
  | 0 => none
  | n + 1 => match zPkM f n with
    | none => some (n, f n)
    | some (k, v) => if v < f n then some (n, f n) else some (k, v)
theorem zPkL_congr {f g : Nat → Int32} : ∀ {n : Nat}, (∀ j, j < n → f j = g j) → zPkL f n = zPkL g n
  | 0, _ => rfl
  | n + 1, h => by
    unfold zPkL
    rw [zPkL_congr (fun j hj => h j (by omega)), h n (by omega)]
theorem zPkM_congr {f g : Nat → Int32} : ∀ {n : Nat}, (∀ j, j < n → f j = g j) → zPkM f n = zPkM g n
  | 0, _ => rfl
  | n + 1, h => by
    unfold zPkM
    rw [zPkM_congr (fun j hj => h j (by omega)), h n (by omega)]
theorem zPkL_lt {f : Nat → Int32} : ∀ {n k : Nat} {v : Int32}, zPkL f n = some (k, v) → k < n ∧ v = f k
  | 0, k, v, h => by cases h
  | n + 1, k, v, h => by
    unfold zPkL at h
    cases e : zPkL f n with
    | none => rw [e] at h; cases h; exact ⟨by omega, rfl⟩
    | some q =>
      obtain ⟨k2, v2⟩ := q
      rw [e] at h
      have h2 := zPkL_lt e
      simp only [] at h
      split at h
      · cases h; exact ⟨by omega, rfl⟩
      · cases h; exact ⟨by omega, h2.2⟩
theorem zPkM_lt {f : Nat → Int32} : ∀ {n k : Nat} {v : Int32}, zPkM f n = some (k, v) → k < n ∧ v = f k
  | 0, k, v, h => by cases h
  | n + 1, k, v, h => by
    unfold zPkM at h
    cases e : zPkM f n with
    | none => rw [e] at h; cases h; exact ⟨by omega, rfl⟩
    | some q =>
      obtain ⟨k2, v2⟩ := q
      rw [e] at h
      have h2 := zPkM_lt e
      simp only [] at h
      split at h
      · cases h; exact ⟨by omega, rfl⟩
      · cases h; exact ⟨by omega, h2.2⟩
theorem zPkL_n {f : Nat → Int32} {n : Nat} (h : zPkL f n = none) : zPkL f (n + 1) = some (n, f n) := by rw [zPkL, h]
theorem zPkL_t {f : Nat → Int32} {n k : Nat} {v : Int32} (h : zPkL f n = some (k, v)) (hl : f n < v) : zPkL f (n + 1) = some (n, f n) := by rw [zPkL, h]; simp only []; rw [if_pos hl]
theorem zPkL_f {f : Nat → Int32} {n k : Nat} {v : Int32} (h : zPkL f n = some (k, v)) (hl : ¬ f n < v) : zPkL f (n + 1) = some (k, v) := by rw [zPkL, h]; simp only []; rw [if_neg hl]
theorem zPkM_n {f : Nat → Int32} {n : Nat} (h : zPkM f n = none) : zPkM f (n + 1) = some (n, f n) := by rw [zPkM, h]
theorem zPkM_t {f : Nat → Int32} {n k : Nat} {v : Int32} (h : zPkM f n = some (k, v)) (hl : v < f n) : zPkM f (n + 1) = some (n, f n) := by rw [zPkM, h]; simp only []; rw [if_pos hl]
theorem zPkM_f {f : Nat → Int32} {n k : Nat} {v : Int32} (h : zPkM f n = some (k, v)) (hl : ¬ v < f n) : zPkM f (n + 1) = some (k, v) := by rw [zPkM, h]; simp only []; rw [if_neg hl]
def zp1 (o : Option (Nat × Int32)) : Int32 := match o with
  | none => -4
  | some q => nI q.1
def zp2 (o : Option (Nat × Int32)) : Int32 := match o with
  | none => -4
  | some q => q.2
/-- bit i of a set -/
def zbit (m i : Nat) : Nat := m / 2 ^ i % 2
theorem zbit_eq {m i : Nat} (hm : m < 2 ^ 31) (hi : i < 32) : (nI m >>> (nI i &&& 31)) &&& nI 1 = nI (zbit m i) := by
  have h1 : nI i &&& 31 = nI i := by
    have := pk_andN (n := i) (by omega) (m := (31 : Int32)) 5 rfl
    rw [this, Nat.mod_eq_of_lt (by omega)]
  have h2 : ((nI i).toBitVec.smod 32).toNat = i := by
    have : ∀ i : Nat, i < 32 → ((nI i).toBitVec.smod 32).toNat = i := by decide +kernel
    exact this i hi
  rw [h1, pk_shrN hm _ i h2, pk_andN (by have := Nat.div_le_self m (2 ^ i); omega) 1 rfl]
  rfl
theorem zshl_eq {n : Nat} (hn : n ≤ 8) : nI 1 <<< (nI n &&& 31) = nI (2 ^ n) := by
  have : ∀ n : Nat, n < 9 → nI 1 <<< (nI n &&& 31) = nI (2 ^ n) := by decide +kernel
  exact this n (by omega)
def zDraw (z i : Nat) : Nat := (7919 * z + 6151 * i + 1) * (7919 * z + 6151 * i + 1) % 65521
theorem zDraw_eq {z i : Nat} (hz : z < 10000) (hi : i < 4) : ((((7919 : Int64) * (nI z).toInt64 + (6151 : Int64) * (nI i).toInt64 + 1) * ((7919 : Int64) * (nI z).toInt64 + (6151 : Int64) * (nI i).toInt64 + 1)) - (((7919 : Int64) * (nI z).toInt64 + (6151 : Int64) * (nI i).toInt64 + 1) * ((7919 : Int64) * (nI z).toInt64 + (6151 : Int64) * (nI i).toInt64 + 1)) / 65521 * 65521).toInt32 = nI (zDraw z i) := by
  have e1 : (7919 : Int64) = lN 7919 := rfl
  have e2 : (6151 : Int64) = lN 6151 := rfl
  have e3 : (65521 : Int64) = lN 65521 := rfl
  rw [e1, e2, e3, nI_l (by omega), nI_l (by omega), lN_mul, lN_mul, lN_add, lN_1, lN_mul]
  have hq : 7919 * z + 6151 * i + 1 < 2 ^ 27 := by omega
  have hb : (7919 * z + 6151 * i + 1) * (7919 * z + 6151 * i + 1) < 2 ^ 63 := by
    have := Nat.mul_le_mul (Nat.le_of_lt hq) (Nat.le_of_lt hq)
    omega
  rw [pk_lRem hb (by decide) (by decide), lN_i]
  rfl
/-- how many of the first n -/
def zCt (P : Nat → Bool) : Nat → Nat
  | 0 => 0
  | n + 1 => zCt P n + (if P n = true then 1 else 0)
theorem zCt_le {P : Nat → Bool} : ∀ n, zCt P n ≤ n
  | 0 => Nat.le_refl 0
  | n + 1 => by
    have := zCt_le (P := P) n
    unfold zCt
    split <;> omega
theorem zCt_0 {P : Nat → Bool} : ∀ n, zCt P n = 0 ↔ zLo P n = none
  | 0 => ⟨fun _ => rfl, fun _ => rfl⟩
  | n + 1 => by
    have ih := zCt_0 (P := P) n
    unfold zCt zLo
    by_cases hp : P n = true
    · rw [if_pos hp]
      constructor
      · intro h; omega
      · intro h
        cases e : zLo P n with
        | none => rw [e] at h; simp [hp] at h
        | some k => rw [e] at h; cases h
    · rw [if_neg hp]
      cases e : zLo P n with
      | none => rw [Nat.add_zero]; simp [hp, ih.mpr e]
      | some k =>
        constructor
        · intro h
          have := ih.mp (by omega)
          rw [e] at this; cases this
        · intro h; cases h
/-! what the reference answers -/
abbrev zLy (s : Nat → Nat → Nat) (k : Nat) : Bool := !(decide (¬ s 122 (1 + 3 * k) = s 122 (1 + 3 * k + 1)) && zOnB (s 123) (s 124) (s 122 (1 + 3 * k)) (s 122 (1 + 3 * k + 2)) (s 122 (1 + 3 * k + 1)))
def aLies (s : Nat → Nat → Nat) : Int32 := zBits (zLy s) (s 122 0)
def zFit (s : Nat → Nat → Nat) (i : Nat) (T : ZT) : Nat → Bool
  | 0 => true
  | n + 1 => zFit s i T n && (decide (¬ s 128 n = i) || decide (zAt T (s 130 n) = s 129 n))
def aKinds (s : Nat → Nat → Nat) (x : Int32) : Int32 := if zix x (s 116 0) = true then zBits (fun kd => zFit s x.toNatClampNeg (zTrS s 0 kd (s 118 x.toNatClampNeg) (s 119 x.toNatClampNeg) (s 119 x.toNatClampNeg)) (s 109 33)) 4 else -1
abbrev zPs (s : Nat → Nat → Nat) (m n : Nat) : Nat := zSum (fun i => zbit m i * zTxW s 0 i) n
def aPaid (s : Nat → Nat → Nat) (x y : Int32) : Int32 := if zix x 1000 = true ∧ zix y 2 = true then (if y.toNatClampNeg = 0 then nI (zCt (fun m => decide (zPs s m (s 116 0) = x.toNatClampNeg)) (2 ^ s 116 0)) else zo (-4) (zLo (fun m => decide (zPs s m (s 116 0) = x.toNatClampNeg)) (2 ^ s 116 0))) else -1
/-- where a sign is turned to -/
def zTd (nc : Nat) (nr : Nat → Nat) (c n : Nat) : Nat := match zLo (fun k => decide (¬ k = n ∧ nr (8 * c + k) < 10000)) nc with
  | some k => k
  | none => n
def zDy (s : Nat → Nat → Nat) (z i : Nat) : ZT := zTrS s 0 (s 117 i) (zDraw z i % s 111 0) (zDraw z i / 8 % s 111 0) (zDraw z i / 8 % s 111 0)
def aDay (s : Nat → Nat → Nat) (x y : Int32) : Int32 := if zix x 10000 = true ∧ zix y 2 = true then (if y.toNatClampNeg = 0 then nI (zSum (fun i => (zDy s x.toNatClampNeg i).2.2.2.1) (s 116 0)) else nI (zSum (fun i => if (zDy s x.toNatClampNeg i).2.2.2.2.1 = zDraw x.toNatClampNeg i / 8 % s 111 0 then 1 else 0) (s 116 0))) else -1
def zBp (s : Nat → Nat → Nat) (i : Nat) : Option (Nat × Int32) := zPkL (fun c => nI (zTrS s 0 (s 117 i) (s 118 i) (s 119 i) c).2.2.2.1) (s 111 0)
def aBest (s : Nat → Nat → Nat) (x y : Int32) : Int32 := if zix x (s 116 0) = true ∧ zix y 2 = true then (if y.toNatClampNeg = 0 then zp1 (zBp s x.toNatClampNeg) else zp2 (zBp s x.toNatClampNeg)) else -1
/-- how many wrong steps of all begin at c -/
abbrev zWa (s : Nat → Nat → Nat) (c : Nat) : Nat := zSum (zTlW s 0 c) (s 116 0)
def aWatch (s : Nat → Nat → Nat) (x : Int32) : Int32 := if zix x 2 = true then (if x.toNatClampNeg = 0 then zp1 (zPkM (fun c => nI (zWa s c)) (s 111 0)) else zp2 (zPkM (fun c => nI (zWa s c)) (s 111 0))) else -1
