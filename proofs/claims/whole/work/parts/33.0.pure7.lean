/-! PURE: MEAN -/
def zWy (x m : Nat) : Nat → Nat
  | 0 => 1
  | k + 1 => zWy x m k * (if zbit m k = 1 then x else 10 - x)
/-- the block on trial with its first k signs turned as the set m says -/
def zTn (s : Nat → Nat → Nat) (m : Nat) : Nat → Nat → Nat
  | 0 => zCopy (s 122) 0 352
  | k + 1 => va_up (zTn s m k) (353 + 3 * k + 2) (if zbit m k = 1 then zTd (s 111 0) (s 123) (zTn s m k (353 + 3 * k)) (zTn s m k (353 + 3 * k + 2)) else zTn s m k (353 + 3 * k + 2))
theorem zTd_lt {nc : Nat} {nr : Nat → Nat} {c n : Nat} (hnc : nc ≤ 8) (hn : n < 8) : zTd nc nr c n < 8 := by
  unfold zTd
  cases e : zLo (fun k => decide (¬ k = n ∧ nr (8 * c + k) < 10000)) nc with
  | none => exact hn
  | some k => have := zLo_lt e; show k < 8; omega
theorem zTn_o {s : Nat → Nat → Nat} {m j : Nat} : ∀ {k : Nat}, (∀ q, q < k → j ≠ 353 + 3 * q + 2) → zTn s m k j = zCopy (s 122) 0 352 j
  | 0, _ => rfl
  | k + 1, h => by
    unfold zTn
    rw [va_up_n _ _ (h k (by omega))]
    exact zTn_o (fun q hq => h q (by omega))
theorem zTn_f {s : Nat → Nat → Nat} {m k : Nat} (hk : k ≤ 9) : ∀ j, (j < 352 ∨ 384 ≤ j) → zTn s m k j = s 122 j := fun j hj => by rw [zTn_o (fun q hq => by omega), zCopy_out hj]
theorem zTn_k {s : Nat → Nat → Nat} {m : Nat} (hnc : s 111 0 ≤ 8) (hg : s 122 0 ≤ 8) (hK : RefK s 0) (hP : RefP s) : ∀ {k : Nat}, k ≤ s 122 0 → RefK (sT s (zTn s m k)) 352
  | 0, _ => by
    have hP0 := hP.1
    have h352 : sT s (zTn s m 0) 122 352 = s 122 0 := zC0
    refine ⟨⟨by rw [h352]; omega, fun q hq => ?_⟩, fun i hi => ?_⟩
    · rw [h352] at hq
      have h1 := hK.1.2 q (by omega)
      refine ⟨?_, ?_, ?_⟩
      · show zCopy (s 122) 0 352 (352 + 1 + 3 * q) < 8
        rw [show 352 + 1 + 3 * q = 352 + (0 + 1 + 3 * q) by omega, zCopy_in (by omega)]
        exact h1.1
      · show zCopy (s 122) 0 352 (352 + 1 + 3 * q + 1) < 8
        rw [show 352 + 1 + 3 * q + 1 = 352 + (0 + 1 + 3 * q + 1) by omega, zCopy_in (by omega)]
        exact h1.2.1
      · show zCopy (s 122) 0 352 (352 + 1 + 3 * q + 2) < 8
        rw [show 352 + 1 + 3 * q + 2 = 352 + (0 + 1 + 3 * q + 2) by omega, zCopy_in (by omega)]
        exact h1.2.2
    · have hi2 : i < s 116 0 := hi
      show zCopy (s 122) 0 352 (352 + 28 + i) < 8
      rw [show 352 + 28 + i = 352 + (0 + 28 + i) by omega, zCopy_in (by omega)]
      exact hK.2 i hi2
  | k + 1, hk => by
    have hP0 := hP.1
    have ih := zTn_k (m := m) hnc hg hK hP (show k ≤ s 122 0 by omega)
    have h352 : ∀ k, sT s (zTn s m k) 122 352 = s 122 0 := fun k => (zTn_o (s := s) (m := m) (k := k) (j := 352) (fun q _ => by omega)).trans zC0
    have hv : (if zbit m k = 1 then zTd (s 111 0) (s 123) (zTn s m k (353 + 3 * k)) (zTn s m k (353 + 3 * k + 2)) else zTn s m k (353 + 3 * k + 2)) < 8 := by
      have h3 : zTn s m k (353 + 3 * k + 2) < 8 := by
        have := (ih.1.2 k (by rw [h352]; omega)).2.2
        have h4 : zTn s m k (352 + 1 + 3 * k + 2) < 8 := this
        rw [show 352 + 1 + 3 * k + 2 = 353 + 3 * k + 2 by omega] at h4
        exact h4
      split
      · exact zTd_lt hnc h3
      · exact h3
    refine ⟨⟨by rw [h352]; omega, fun q hq => ?_⟩, fun i hi => ?_⟩
    · rw [h352] at hq
      have h1 := ih.1.2 q (by rw [h352]; omega)
      refine ⟨?_, ?_, ?_⟩
      · show va_up (zTn s m k) (353 + 3 * k + 2) _ (352 + 1 + 3 * q) < 8
        rw [va_up_n _ _ (by omega)]
        exact h1.1
      · show va_up (zTn s m k) (353 + 3 * k + 2) _ (352 + 1 + 3 * q + 1) < 8
        rw [va_up_n _ _ (by omega)]
        exact h1.2.1
      · show va_up (zTn s m k) (353 + 3 * k + 2) _ (352 + 1 + 3 * q + 2) < 8
        by_cases e : q = k
        · subst e
          rw [show 352 + 1 + 3 * q + 2 = 353 + 3 * q + 2 by omega, va_up_s]
          exact hv
        · rw [va_up_n _ _ (by omega)]
          exact h1.2.2
    · have h1 := ih.2 i hi
      have hi2 : i < s 116 0 := hi
      show va_up (zTn s m k) (353 + 3 * k + 2) _ (352 + 28 + i) < 8
      rw [va_up_n _ _ (by omega)]
      exact h1
theorem zWy_le {x m : Nat} (hx : x ≤ 10) : ∀ k, zWy x m k ≤ 10 ^ k
  | 0 => Nat.le_refl 1
  | k + 1 => by
    have h1 := zWy_le (m := m) hx k
    unfold zWy
    rw [Nat.pow_succ]
    exact Nat.mul_le_mul h1 (by split <;> omega)
def zUp (s : Nat → Nat → Nat) (m x n : Nat) : Nat := zSum (fun q => zWy x q m * taxAt (sT s (zTn s q m)) 352) n
theorem zWy_sum : ∀ m, m < 6 → ∀ x, x < 11 → zSum (fun q => zWy x q m) (2 ^ m) = 10 ^ m := by decide +kernel
theorem zSum_le {f g : Nat → Nat} : ∀ {n : Nat}, (∀ i, i < n → f i ≤ g i) → zSum f n ≤ zSum g n
  | 0, _ => Nat.le_refl 0
  | n + 1, h => by
    unfold zSum
    have h1 := zSum_le (f := f) (g := g) (n := n) (fun i hi => h i (by omega))
    have h2 := h n (by omega)
    omega
theorem zSum_mul {f : Nat → Nat} {c : Nat} : ∀ {n : Nat}, zSum (fun i => f i * c) n = zSum f n * c
  | 0 => (Nat.zero_mul c).symm
  | n + 1 => by unfold zSum; rw [zSum_mul, Nat.add_mul]
theorem zUp_le {s : Nat → Nat → Nat} {m x : Nat} (hT : RefT s) (hP : RefP s) (hK : RefK s 0) (hg : s 122 0 ≤ 8) (hm : m ≤ s 122 0) (hm5 : m ≤ 5) (hx : x ≤ 10) : zUp s m x (2 ^ m) ≤ 3240 * 10 ^ m := by
  have h1 : zUp s m x (2 ^ m) ≤ zSum (fun q => zWy x q m * 3240) (2 ^ m) := zSum_le (fun q _ => Nat.mul_le_mul (Nat.le_refl _) (taxAt_le hT hP (zTn_k hT.2.1 hg hK hP hm)))
  rw [zSum_mul, zWy_sum m (by omega) x (by omega)] at h1
  rw [Nat.mul_comm]
  exact h1
theorem gcd_step (a b : Nat) : Nat.gcd a b = Nat.gcd b (a % b) := by rw [Nat.gcd_comm a b, Nat.gcd_rec b a, Nat.gcd_comm]
theorem p10 {m : Nat} (h : m ≤ 5) : 10 ^ m ≤ 100000 ∧ 0 < 10 ^ m ∧ 2 ^ m ≤ 32 := by
  have : m = 0 ∨ m = 1 ∨ m = 2 ∨ m = 3 ∨ m = 4 ∨ m = 5 := by omega
  rcases this with h | h | h | h | h | h <;> rw [h] <;> decide
def aMean (s : Nat → Nat → Nat) (x y z : Int32) : Int32 := if zix x 6 = true ∧ zix y 11 = true ∧ zix z 2 = true then (if z.toNatClampNeg = 0 then nI (zUp s (min x.toNatClampNeg (s 122 0)) y.toNatClampNeg (2 ^ min x.toNatClampNeg (s 122 0)) / Nat.gcd (zUp s (min x.toNatClampNeg (s 122 0)) y.toNatClampNeg (2 ^ min x.toNatClampNeg (s 122 0))) (10 ^ min x.toNatClampNeg (s 122 0))) else nI (10 ^ min x.toNatClampNeg (s 122 0) / Nat.gcd (zUp s (min x.toNatClampNeg (s 122 0)) y.toNatClampNeg (2 ^ min x.toNatClampNeg (s 122 0))) (10 ^ min x.toNatClampNeg (s 122 0)))) else -1
