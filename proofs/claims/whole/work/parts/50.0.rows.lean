/-! the rows of arrays of arrays -/
theorem shr_10 (c : Nat) (h : c < 8) : SH[10 + c]? = some (15, 8) := by
  have h8 : c = 0 ∨ c = 1 ∨ c = 2 ∨ c = 3 ∨ c = 4 ∨ c = 5 ∨ c = 6 ∨ c = 7 := by omega
  rcases h8 with rfl | rfl | rfl | rfl | rfl | rfl | rfl | rfl <;> rfl
theorem Fr_9 {t : Nat} (c : Nat) (h : c < 8) : zF t 9 c = some (10 + c) := by
  have h8 : c = 0 ∨ c = 1 ∨ c = 2 ∨ c = 3 ∨ c = 4 ∨ c = 5 ∨ c = 6 ∨ c = 7 := by omega
  rcases h8 with rfl | rfl | rfl | rfl | rfl | rfl | rfl | rfl <;> rfl
theorem shr_19 (c : Nat) (h : c < 8) : SH[19 + c]? = some (15, 8) := by
  have h8 : c = 0 ∨ c = 1 ∨ c = 2 ∨ c = 3 ∨ c = 4 ∨ c = 5 ∨ c = 6 ∨ c = 7 := by omega
  rcases h8 with rfl | rfl | rfl | rfl | rfl | rfl | rfl | rfl <;> rfl
theorem Fr_18 {t : Nat} (c : Nat) (h : c < 8) : zF t 18 c = some (19 + c) := by
  have h8 : c = 0 ∨ c = 1 ∨ c = 2 ∨ c = 3 ∨ c = 4 ∨ c = 5 ∨ c = 6 ∨ c = 7 := by omega
  rcases h8 with rfl | rfl | rfl | rfl | rfl | rfl | rfl | rfl <;> rfl
theorem shr_41 (c : Nat) (h : c < 8) : SH[41 + c]? = some (15, 8) := by
  have h8 : c = 0 ∨ c = 1 ∨ c = 2 ∨ c = 3 ∨ c = 4 ∨ c = 5 ∨ c = 6 ∨ c = 7 := by omega
  rcases h8 with rfl | rfl | rfl | rfl | rfl | rfl | rfl | rfl <;> rfl
theorem Fr_40 {t : Nat} (c : Nat) (h : c < 8) : zF t 40 c = some (41 + c) := by
  have h8 : c = 0 ∨ c = 1 ∨ c = 2 ∨ c = 3 ∨ c = 4 ∨ c = 5 ∨ c = 6 ∨ c = 7 := by omega
  rcases h8 with rfl | rfl | rfl | rfl | rfl | rfl | rfl | rfl <;> rfl
theorem shr_50 (c : Nat) (h : c < 8) : SH[50 + c]? = some (15, 8) := by
  have h8 : c = 0 ∨ c = 1 ∨ c = 2 ∨ c = 3 ∨ c = 4 ∨ c = 5 ∨ c = 6 ∨ c = 7 := by omega
  rcases h8 with rfl | rfl | rfl | rfl | rfl | rfl | rfl | rfl <;> rfl
theorem Fr_49 {t : Nat} (c : Nat) (h : c < 8) : zF t 49 c = some (50 + c) := by
  have h8 : c = 0 ∨ c = 1 ∨ c = 2 ∨ c = 3 ∨ c = 4 ∨ c = 5 ∨ c = 6 ∨ c = 7 := by omega
  rcases h8 with rfl | rfl | rfl | rfl | rfl | rfl | rfl | rfl <;> rfl
theorem shr_99 (c : Nat) (h : c < 8) : SH[99 + c]? = some (15, 8) := by
  have h8 : c = 0 ∨ c = 1 ∨ c = 2 ∨ c = 3 ∨ c = 4 ∨ c = 5 ∨ c = 6 ∨ c = 7 := by omega
  rcases h8 with rfl | rfl | rfl | rfl | rfl | rfl | rfl | rfl <;> rfl
theorem Fr_98 {t : Nat} (c : Nat) (h : c < 8) : zF t 98 c = some (99 + c) := by
  have h8 : c = 0 ∨ c = 1 ∨ c = 2 ∨ c = 3 ∨ c = 4 ∨ c = 5 ∨ c = 6 ∨ c = 7 := by omega
  rcases h8 with rfl | rfl | rfl | rfl | rfl | rfl | rfl | rfl <;> rfl
theorem shr_83 (c : Nat) (h : c < 2) : SH[83 + c]? = some (15, 4) := by
  have h8 : c = 0 ∨ c = 1 := by omega
  rcases h8 with rfl | rfl <;> rfl
theorem Fr_82 {t : Nat} (c : Nat) (h : c < 2) : zF t 82 c = some (83 + c) := by
  have h8 : c = 0 ∨ c = 1 := by omega
  rcases h8 with rfl | rfl <;> rfl
/-! PURE: the system's streets hold what near and far say -/
def zln (v : Nat) : Nat := if v < 10000 then v else 0
def zds (v : Nat) : Int32 := if v < 10000 then nI v else -4
/-- lengths and distances of a town's streets: rows from la and da on -/
def CSt (nc : Nat) (nr fr : Nat → Nat) (I : AI) (st la da : Nat) : Prop := I st 0 = nI nc ∧ nc ≤ 8 ∧ (∀ a b, a < 8 → b < 8 → I (la + a) b = nI (zln (nr (8 * a + b)))) ∧ (∀ a b, a < 8 → b < 8 → I (da + a) b = zds (fr (8 * a + b))) ∧ (∀ k, k < 64 → 1 ≤ nr k ∧ nr k ≤ 10000) ∧ (∀ k, fr k ≤ 10000) ∧ ∀ a b c, a < 8 → b < 8 → c < 8 → nr (8 * a + b) < 10000 → fr (8 * a + c) < 10000 → fr (8 * b + c) < 10000
theorem zln_pos {v : Nat} (h : 1 ≤ v) : (0 < zln v ↔ v < 10000) ∧ zln v < 10000 := by
  unfold zln
  by_cases e : v < 10000
  · rw [if_pos e]; exact ⟨⟨fun _ => e, fun _ => by omega⟩, e⟩
  · rw [if_neg e]; exact ⟨⟨fun z => by omega, fun z => absurd z e⟩, by omega⟩
theorem nI_le0 {n : Nat} (h : n < 2 ^ 31) : nI n ≤ 0 ↔ n = 0 := by
  have := nI_leI h (show 0 < 2 ^ 31 by decide)
  rw [show nI 0 = (0 : Int32) from rfl] at this
  rw [this]
  omega
/-- one less, which may be none -/
def zPd (n : Nat) : Int32 := match n with
  | 0 => -1
  | m + 1 => nI m
theorem zPd_s (n : Nat) : nI n + Int32.ofInt (-1) = zPd n := by
  cases n with
  | zero => rfl
  | succ m => exact pk_m1 m
theorem zPd_p {n : Nat} (h : 1 ≤ n) : nI (n - 1) = zPd n := by
  cases n with
  | zero => omega
  | succ m => rfl
theorem zPd_m (n : Nat) : nI n - nI 1 = zPd n := by
  cases n with
  | zero => rfl
  | succ m => rw [pk_sub (by omega)]; rfl
