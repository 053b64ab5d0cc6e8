/-! PURE: Euclid's turns, signs turned, lures that change nothing -/
def zEs : Nat → Nat → Nat → Prop
  | 0, _, b => b = 0
  | n + 1, a, b => b = 0 ∨ zEs n b (a % b)
theorem zEs_2 : ∀ (j a b : Nat), b < 2 ^ j → zEs (2 * j) a b
  | 0, a, b, h => by show b = 0; simp at h; exact h
  | j + 1, a, b, h => by
    show b = 0 ∨ (a % b = 0 ∨ zEs (2 * j) (a % b) (b % (a % b)))
    by_cases h0 : b = 0
    · exact Or.inl h0
    · refine Or.inr ?_
      by_cases h1 : a % b = 0
      · exact Or.inl h1
      · refine Or.inr (zEs_2 j _ _ ?_)
        have h2 : a % b < b := Nat.mod_lt _ (by omega)
        have h3 : b % (a % b) < a % b := Nat.mod_lt _ (by omega)
        have h4 := Nat.div_add_mod b (a % b)
        have h5 : 1 ≤ b / (a % b) := (Nat.le_div_iff_mul_le (by omega)).mpr (by omega)
        have h6 : a % b ≤ a % b * (b / (a % b)) := Nat.le_mul_of_pos_right _ h5
        rw [Nat.pow_succ] at h
        omega
theorem zOnF_td {nc : Nat} {nr : Nat → Nat} {c n : Nat} : zOnF nc nr c (some n) = some (zTd nc nr c n) := by
  unfold zOnF zTd
  have e : zLo (zSt nr c (some n)) nc = zLo (fun k => decide (¬ k = n ∧ nr (8 * c + k) < 10000)) nc := zLo_congr (fun j _ => by
    unfold zSt
    exact decide_eq_decide.mpr ⟨fun h => ⟨fun z => h.1 (by rw [z]), h.2⟩, fun h => ⟨fun z => h.1 (Option.some.inj z), h.2⟩⟩)
  rw [e]
  cases zLo (fun k => decide (¬ k = n ∧ nr (8 * c + k) < 10000)) nc <;> rfl
theorem CSg.n3 {m : Nat} {gc gt gn : Nat → Nat} {I : AI} {g : Nat} (h : CSg m gc gt gn I g) {k v : Nat} (hv : v < 8) : CSg m gc gt (va_up gn k v) (zu I (g + 3) k (nI v)) g := by
  refine ⟨by rw [zu_o _ _ (by omega)]; exact h.1, h.2.1, fun j hj => ?_⟩
  rw [zu_o _ _ (show g + 1 ≠ g + 3 by omega), zu_o _ _ (show g + 2 ≠ g + 3 by omega)]
  have hj2 := h.2.2 j hj
  by_cases e : j = k
  · subst e
    rw [zu_s, va_up_s]
    exact ⟨⟨hj2.1.1, hj2.1.2.1, rfl⟩, hj2.2.1, hj2.2.2.1, hv⟩
  · rw [zu_n _ _ e, va_up_n _ _ e]
    exact hj2
/-- the signs on trial, the first k turned -/
def zTs (s : Nat → Nat → Nat) (q k : Nat) (I : AI) : Prop := CSg (s 122 0) (fun j => zTn s q k (352 + 1 + 3 * j)) (fun j => zTn s q k (352 + 1 + 3 * j + 1)) (fun j => zTn s q k (352 + 1 + 3 * j + 2)) I 70
theorem zTs_0 {s : Nat → Nat → Nat} {q : Nat} {I : AI} (hm : s 122 0 ≤ 8) (h : CSg (s 122 0) (sgC s 0) (sgT s 0) (sgN s 0) I 70) : zTs s q 0 I := CSg.c h (fun k hk => by
  show zCopy (s 122) 0 352 (352 + 1 + 3 * k) = _ ∧ zCopy (s 122) 0 352 (352 + 1 + 3 * k + 1) = _ ∧ zCopy (s 122) 0 352 (352 + 1 + 3 * k + 2) = _
  rw [show 352 + 1 + 3 * k = 352 + (1 + 3 * k) by omega, show 352 + (1 + 3 * k) + 1 = 352 + (1 + 3 * k + 1) by omega, show 352 + (1 + 3 * k) + 2 = 352 + (1 + 3 * k + 2) by omega, zCopy_in (by omega), zCopy_in (by omega), zCopy_in (by omega)]
  exact ⟨congrArg (s 122) (by omega), congrArg (s 122) (by omega), congrArg (s 122) (by omega)⟩)
theorem zTs_k {s : Nat → Nat → Nat} {q k : Nat} {I : AI} (hb : ¬ zbit q k = 1) (h : zTs s q k I) : zTs s q (k + 1) I := CSg.c h (fun j hj => by
  have e : ∀ x, zTn s q (k + 1) x = zTn s q k x := fun x => by
    rw [zTn, if_neg hb]
    by_cases e : x = 353 + 3 * k + 2
    · rw [e, va_up_s]
    · rw [va_up_n _ _ e]
  exact ⟨e _, e _, e _⟩)
theorem zTs_t {s : Nat → Nat → Nat} {q k : Nat} {I : AI} (hb : zbit q k = 1) (hv : zTd (s 111 0) (s 123) (zTn s q k (352 + 1 + 3 * k)) (zTn s q k (352 + 1 + 3 * k + 2)) < 8) (h : zTs s q k I) : zTs s q (k + 1) (zu I 73 k (nI (zTd (s 111 0) (s 123) (zTn s q k (352 + 1 + 3 * k)) (zTn s q k (352 + 1 + 3 * k + 2))))) := CSg.c (CSg.n3 (k := k) h hv) (fun j hj => by
  have e : ∀ x, zTn s q (k + 1) x = va_up (zTn s q k) (353 + 3 * k + 2) (zTd (s 111 0) (s 123) (zTn s q k (353 + 3 * k)) (zTn s q k (353 + 3 * k + 2))) x := fun x => by rw [zTn, if_pos hb]
  simp only [e]
  refine ⟨va_up_n _ _ (by omega), va_up_n _ _ (by omega), ?_⟩
  by_cases e2 : j = k
  · subst e2
    exact (va_up_s _ _ _).trans (va_up_s _ _ _).symm
  · rw [va_up_n _ _ (by omega), va_up_n _ _ e2])
theorem zTn_c {s : Nat → Nat → Nat} {q k : Nat} : zTn s q k 352 = s 122 0 := by rw [zTn_o (fun x _ => by omega), zC0]
theorem zTn_w {s : Nat → Nat → Nat} {q k i : Nat} (hk : k ≤ 8) (hi : i < 4) : zTn s q k (352 + 28 + i) = s 122 (28 + i) := by rw [zTn_o (fun x hx => by omega), show 352 + 28 + i = 352 + (28 + i) by omega, zCopy_in (by omega)]
theorem zTs_tr {s : Nat → Nat → Nat} {q k : Nat} {I : AI} (h : zTs s q k I) : CSg (sT s (zTn s q k) 122 352) (sgC (sT s (zTn s q k)) 352) (sgT (sT s (zTn s q k)) 352) (sgN (sT s (zTn s q k)) 352) I 70 := by
  have e : sT s (zTn s q k) 122 352 = s 122 0 := zTn_c (q := q) (k := k)
  rw [e]
  exact h
theorem zGo_nx {nx nx2 : Nat → Option Nat → Option Nat} {on : Nat → Nat → Bool} {nr : Nat → Nat} {kd r0 r1 r2 aim : Nat} (h : ∀ c cm, ¬ c = aim → nx c cm = nx2 c cm) : ∀ (f st mi wr tx c : Nat) (cm : Option Nat) (be : Nat → Nat) (sy : Nat → Bool), zGo nx on nr kd r0 r1 r2 aim f st mi wr tx c cm be sy = zGo nx2 on nr kd r0 r1 r2 aim f st mi wr tx c cm be sy
  | 0, st, mi, wr, tx, c, cm, be, sy => rfl
  | f + 1, st, mi, wr, tx, c, cm, be, sy => by
    by_cases ha : c = aim
    · rw [zGo_aim ha, zGo_aim ha]
    · cases hn : nx c cm with
      | none => rw [zGo_none hn, zGo_none ((h c cm ha).symm.trans hn)]
      | some n =>
        rw [zGo_some ha hn, zGo_some ha ((h c cm ha).symm.trans hn)]
        exact zGo_nx h f _ _ _ _ n _ _ _
theorem zSign_c {gc gt gn gc2 gt2 gn2 : Nat → Nat} {c a : Nat} : ∀ {n : Nat}, (∀ k, k < n → gc k = gc2 k ∧ gt k = gt2 k ∧ gn k = gn2 k) → zSign gc gt gn c a n = zSign gc2 gt2 gn2 c a n
  | 0, _ => rfl
  | n + 1, h => by
    rw [zSign_s, zSign_s, zSign_c (fun k hk => h k (by omega)), (h n (by omega)).1, (h n (by omega)).2.1, (h n (by omega)).2.2]
/-- a sign that no stranger on his way heeds changes no tax -/
theorem lure_same {s : Nat → Nat → Nat} {c t n : Nat} (hm : s 122 0 ≤ 8) (hw : s 116 0 ≤ 4) (h : c = t ∨ ∀ i, i < s 116 0 → ¬ (s 117 i = 1 ∧ s 119 i = t)) : zLt s c t n = taxAt s 0 := by
  unfold zLt
  refine zSum_congr (fun i hi => ?_)
  unfold zTxW zTw
  have hi2 : i < s 116 0 := hi
  have e1 : (sT s (gPut s c t n)) 122 (352 + 28 + i) = s 122 (0 + 28 + i) := (gPut_t (c := c) (t := t) (n := n) hm (by omega)).trans (congrArg (s 122) (by omega))
  rw [e1]
  have e2 : zTrS (sT s (gPut s c t n)) 352 (s 117 i) (s 118 i) (s 119 i) (s 122 (0 + 28 + i)) = zTrS s 0 (s 117 i) (s 118 i) (s 119 i) (s 122 (0 + 28 + i)) := by
    refine zGo_nx (fun c2 cm hc => ?_) 30 0 0 0 0 _ _ _ _
    show zNx (s 111 0) (s 123) (s 124) (sgAt (sT s (gPut s c t n)) 352 (s 119 i)) (s 117 i) (s 119 i) c2 cm = zNx (s 111 0) (s 123) (s 124) (sgAt s 0 (s 119 i)) (s 117 i) (s 119 i) c2 cm
    unfold zNx
    by_cases hk : s 117 i = 1
    · rw [if_pos hk, if_pos hk]
      have e3 : sgAt (sT s (gPut s c t n)) 352 (s 119 i) c2 = sgAt s 0 (s 119 i) c2 := by
        show zSign (fun k => gPut s c t n (352 + 1 + 3 * k)) (fun k => gPut s c t n (352 + 1 + 3 * k + 1)) (fun k => gPut s c t n (352 + 1 + 3 * k + 2)) c2 (s 119 i) (gPut s c t n 352) = _
        rw [gPut_c, zSign_s]
        have g1 := gPut_1 (s := s) (c := c) (t := t) (n := n)
        rw [show 352 + 1 + 3 * s 122 0 = 353 + 3 * s 122 0 by omega, g1.1, g1.2.1, if_neg (fun z => ?_)]
        · refine zSign_c (fun k hk2 => ?_)
          rw [gPut_o (by omega) (by omega) (by omega) (by omega), gPut_o (by omega) (by omega) (by omega) (by omega), gPut_o (by omega) (by omega) (by omega) (by omega)]
          rw [show 352 + 1 + 3 * k = 352 + (1 + 3 * k) by omega, show 352 + (1 + 3 * k) + 1 = 352 + (1 + 3 * k + 1) by omega, show 352 + (1 + 3 * k) + 2 = 352 + (1 + 3 * k + 2) by omega, zCopy_in (by omega), zCopy_in (by omega), zCopy_in (by omega)]
          exact ⟨congrArg (s 122) (by omega), congrArg (s 122) (by omega), congrArg (s 122) (by omega)⟩
        · rcases h with h | h
          · exact hc (by omega)
          · exact h i hi2 ⟨hk, z.2.symm⟩
      rw [e3]
    · rw [if_neg hk, if_neg hk]
  rw [show (sT s (gPut s c t n)) 117 i = s 117 i from rfl, show (sT s (gPut s c t n)) 118 i = s 118 i from rfl, show (sT s (gPut s c t n)) 119 i = s 119 i from rfl, e2]
/-- the pick while lures are offered -/
def pkQ (q : Nat × Option Nat) : Option (Nat × Int32) := q.2.map (fun m => (m, nI q.1))
def zLq (now : Nat) (q : Nat × Option Nat) : Prop := now ≤ q.1 ∧ q.1 ≤ 3240 ∧ (q.2 = none → q.1 = now) ∧ ∀ m, q.2 = some m → m < 1000
theorem pkQ_b {now : Nat} {q : Nat × Option Nat} (h : zLq now q) : ∀ k w, pkQ q = some (k, w) → k < 2 ^ 31 := by
  intro k w e
  unfold pkQ at e
  cases hq : q.2 with
  | none => rw [hq] at e; cases e
  | some m => rw [hq] at e; cases e; have := h.2.2.2 _ hq; omega
theorem luN_id {s : Nat → Nat → Nat} {c t now : Nat} {q : Nat × Option Nat} (hq : now ≤ q.1) (h : ∀ n, zLt s c t n = now) : ∀ n, luN s c t n q = q
  | 0 => rfl
  | n + 1 => by rw [luN, luN_id hq h n, if_neg (fun z => by have := z.2; rw [h n] at this; omega)]
/-- the sign more, offered -/
theorem pkQ_of {now v x : Nat} {q : Nat × Option Nat} (h : zLq now q) (hv : v ≤ 3240) (hn : now < v) : zOfM (pkQ q) x (nI v) = pkQ (if q.1 < v then (v, some x) else q) := by
  unfold pkQ zOfM
  cases hq : q.2 with
  | none =>
    have := h.2.2.1 hq
    rw [if_pos (by omega)]
    rfl
  | some m =>
    show (if nI q.1 < nI v then some (x, nI v) else some (m, nI q.1)) = _
    by_cases e : q.1 < v
    · rw [if_pos ((nI_ltI (by have := h.2.1; omega) (by omega)).mpr e), if_pos e]; rfl
    · rw [if_neg (fun z => e ((nI_ltI (by have := h.2.1; omega) (by omega)).mp z)), if_neg e, hq]; rfl
theorem zLq_of {now v x : Nat} {q : Nat × Option Nat} (h : zLq now q) (hv : v ≤ 3240) (hx : x < 1000) : zLq now (if q.1 < v then (v, some x) else q) := by
  by_cases e : q.1 < v
  · rw [if_pos e]
    have h1 := h.1
    refine ⟨?_, ?_, ?_, ?_⟩
    · show now ≤ v; omega
    · exact hv
    · intro z; cases z
    · intro m z; cases z; exact hx
  · rw [if_neg e]; exact h
