/-! THE PICTURE: one memory for the whole run. I: what int places hold, F: what reference places hold, by (cell, place); sh: the kind and the length of each cell, in the order in which they were made. rho: the real address of a cell; ga: the class of an array cell. -/
abbrev AI : Type := Nat → Nat → Int32
abbrev AR : Type := Nat → Nat → Option Nat
abbrev AS : Type := List (Nat × Nat)
/-- a method: its name, bytes, locals, what it returns, frames and locals' words that it needs, and which extras its body leans on -/
abbrev ZM : Type := MethodName × ByteArray × Nat × Option FieldType × Nat × Nat × Nat
def zTy (c : Nat) : Nat → FieldType := match c with
  | 0 => tyX0 | 1 => tyX1 | 2 => tyX2 | 3 => tyX3 | 4 => tyX4 | 5 => tyX5 | 6 => tyX6 | 7 => tyX7 | 8 => tyX8 | 9 => tyX9 | 10 => tyX10 | 11 => tyX11 | _ => tyX12
def zTb (c : Nat) : u_T := match c with
  | 0 => TX0 | 1 => TX1 | 2 => TX2 | 3 => TX3 | 4 => TX4 | 5 => TX5 | 6 => TX6 | 7 => TX7 | 8 => TX8 | 9 => TX9 | 10 => TX10 | 11 => TX11 | _ => TX12
def zNf (c : Nat) : Nat := match c with
  | 0 => 7 | 1 => 2 | 2 => 3 | 3 => 3 | 4 => 4 | 5 => 4 | 6 => 6 | 7 => 2 | 8 => 6 | 9 => 7 | 10 => 5 | 11 => 13 | _ => 34
def zRn (c : Nat) : String := match c with
  | 0 => RX0 | 1 => RX1 | 2 => RX2 | 3 => RX3 | 4 => RX4 | 5 => RX5 | 6 => RX6 | 7 => RX7 | 8 => RX8 | 9 => RX9 | 10 => RX10 | 11 => RX11 | _ => RX12
/-- what an array of a kind holds -/
def zKt (k : Nat) : FieldType := match k with
  | 13 => .byte | 14 => .char | 15 => .int | 16 => .boolean | 17 => .object "LostAndTaxed$Signs" | _ => .array .int
theorem z13 {P : Nat → Prop} {c : Nat} (h : c < 13) (h0 : P 0) (h1 : P 1) (h2 : P 2) (h3 : P 3) (h4 : P 4) (h5 : P 5) (h6 : P 6) (h7 : P 7) (h8 : P 8) (h9 : P 9) (h10 : P 10) (h11 : P 11) (h12 : P 12) : P c := by
  match c, h with
  | 0, _ => exact h0
  | 1, _ => exact h1
  | 2, _ => exact h2
  | 3, _ => exact h3
  | 4, _ => exact h4
  | 5, _ => exact h5
  | 6, _ => exact h6
  | 7, _ => exact h7
  | 8, _ => exact h8
  | 9, _ => exact h9
  | 10, _ => exact h10
  | 11, _ => exact h11
  | 12, _ => exact h12
theorem z_cl {c : Nat} (h : c < 13) : vwCl[c]? = some (zRn c, zTb c, zNf c) := z13 (P := fun c => vwCl[c]? = some (zRn c, zTb c, zNf c)) h rfl rfl rfl rfl rfl rfl rfl rfl rfl rfl rfl rfl rfl
theorem z_ty {c : Nat} (h : c < 13) : ∀ k, k < zNf c → parseFieldDescriptor (zTb c k).2.2.1 = some (zTy c k) := z13 (P := fun c => ∀ k, k < zNf c → parseFieldDescriptor (zTb c k).2.2.1 = some (zTy c k)) h tyX0_ok tyX1_ok tyX2_ok tyX3_ok tyX4_ok tyX5_ok tyX6_ok tyX7_ok tyX8_ok tyX9_ok tyX10_ok tyX11_ok tyX12_ok
theorem z_nm {c : Nat} (h : c < 13) : ∀ a, a < zNf c → ∀ b, b < zNf c → a ≠ b → (zTb c a).2.1 ≠ (zTb c b).2.1 := z13 (P := fun c => ∀ a, a < zNf c → ∀ b, b < zNf c → a ≠ b → (zTb c a).2.1 ≠ (zTb c b).2.1) h nmX0 nmX1 nmX2 nmX3 nmX4 nmX5 nmX6 nmX7 nmX8 nmX9 nmX10 nmX11 nmX12
/-- the words that every method may lean on -/
def zT : List Cond := lw_tbl.filter goodWord
abbrev zws (M : ZM) : List Cond := .code M.1 M.2.1 M.2.2.1 M.2.2.2.1 :: zT
theorem z_goodT {w : Cond} (h : w ∈ zT) : w ∈ lw_tbl ∧ ((w.onTables && w.keeps) = true ∨ ∃ ty, w = .arrayClass ty) := ⟨(List.mem_filter.mp h).1, good_of_word (List.mem_filter.mp h).2⟩
theorem zT_in {w : Cond} (i : Nat) (h : lw_tbl[i]? = some w) (hg : goodWord w = true) : w ∈ zT := List.mem_filter.mpr ⟨List.mem_of_getElem? h, hg⟩
theorem z_goodIn {M N : ZM} (h : Cond.code N.1 N.2.1 N.2.2.1 N.2.2.2.1 ∈ zT) : GoodIn (zws M) (zws N) := by
  intro w hw
  rcases List.mem_cons.mp hw with rfl | hw
  · exact ⟨List.mem_cons_of_mem _ h, (z_goodT h).2⟩
  · exact ⟨List.mem_cons_of_mem _ hw, (z_goodT hw).2⟩
theorem z_goodL {N : ZM} (h : Cond.code N.1 N.2.1 N.2.2.1 N.2.2.2.1 ∈ zT) : GoodIn lw_tbl (zws N) := by
  intro w hw
  rcases List.mem_cons.mp hw with rfl | hw
  · exact z_goodT h
  · exact z_goodT hw
def zws_u : List Cond := u_ws RX0 TX0 7 ++ u_ws RX1 TX1 2 ++ u_ws RX2 TX2 3 ++ u_ws RX3 TX3 3 ++ u_ws RX4 TX4 4 ++ u_ws RX5 TX5 4 ++ u_ws RX6 TX6 6 ++ u_ws RX7 TX7 2 ++ u_ws RX8 TX8 6 ++ u_ws RX9 TX9 7 ++ u_ws RX10 TX10 5 ++ u_ws RX11 TX11 13 ++ u_ws RX12 TX12 34
theorem z_ulist : zws_u.all (fun w => decide (w ∈ lw_tbl) && goodWord w) = true := by decide +kernel
theorem z_uT {w : Cond} (h : w ∈ zws_u) : w ∈ zT := by
  have h1 := List.all_eq_true.mp z_ulist w h
  simp only [Bool.and_eq_true, decide_eq_true_eq] at h1
  exact List.mem_filter.mpr h1
theorem z_u {c : Nat} (h : c < 13) : ∀ w ∈ u_ws (zRn c) (zTb c) (zNf c), w ∈ zT := by
  refine z13 (P := fun c => ∀ w ∈ u_ws (zRn c) (zTb c) (zNf c), w ∈ zT) h ?_ ?_ ?_ ?_ ?_ ?_ ?_ ?_ ?_ ?_ ?_ ?_ ?_ <;> (intro w hw; refine z_uT ?_; unfold zws_u; simp only [List.mem_append]; simp only [zRn, zTb, zNf] at hw; simp only [hw, true_or, or_true])
/-! cells -/
def zv (ro : Nat → Nat) (v : Value) : Value := match v with
  | .ref a => .ref (ro a)
  | v => v
theorem zv_cat (ro : Nat → Nat) (v : Value) : (zv ro v).category = v.category := by cases v <;> rfl
def zfs (ro : Nat → Nat) (I : AI) (F : AR) (c n a : Nat) : List Value := (List.range n).map (fun k => if (zTy c k).isReference = true then va_rf ((F a k).map ro) else .int (I a k))
def zc (ro : Nat → Nat) (ga : Nat → ClassId) (I : AI) (F : AR) (q : Nat × Nat) (a : Nat) : va_E :=
  if q.1 < 13 then .inr (q.1, zfs ro I F q.1 q.2 a)
  else if q.1 < 17 then .inl (ga a, q.2, .inl (I a))
  else .inl (ga a, q.2, .inr (.inr (.inr (.inr (fun j => (F a j).map ro)))))
theorem zc_o {ro : Nat → Nat} {ga : Nat → ClassId} {I : AI} {F : AR} {c n a : Nat} (h : c < 13) : zc ro ga I F (c, n) a = .inr (c, zfs ro I F c n a) := if_pos h
theorem zc_i {ro : Nat → Nat} {ga : Nat → ClassId} {I : AI} {F : AR} {k n a : Nat} (h : ¬ k < 13) (h2 : k < 17) : zc ro ga I F (k, n) a = .inl (ga a, n, .inl (I a)) := by unfold zc; rw [if_neg h, if_pos h2]
theorem zc_r {ro : Nat → Nat} {ga : Nat → ClassId} {I : AI} {F : AR} {k n a : Nat} (h2 : ¬ k < 17) : zc ro ga I F (k, n) a = .inl (ga a, n, .inr (.inr (.inr (.inr (fun j => (F a j).map ro))))) := by unfold zc; rw [if_neg (show ¬ k < 13 by omega), if_neg h2]
def zw (ro : Nat → Nat) (ga : Nat → ClassId) (I : AI) (F : AR) (sh : AS) : va_W := (List.range sh.length).map (fun a => (ro a, zc ro ga I F (sh.getD a (0, 0)) a))
theorem zw_len {ro : Nat → Nat} {ga : Nat → ClassId} {I : AI} {F : AR} {sh : AS} : (zw ro ga I F sh).length = sh.length := by simp [zw]
theorem zw_get {ro : Nat → Nat} {ga : Nat → ClassId} {I : AI} {F : AR} {sh : AS} {a : Nat} {q : Nat × Nat} (h : sh[a]? = some q) : (zw ro ga I F sh)[a]? = some (ro a, zc ro ga I F q a) := by
  have hl : a < sh.length := (List.getElem?_eq_some_iff.mp h).1
  unfold zw
  rw [List.getElem?_map, List.getElem?_range hl]
  simp only [Option.map_some, List.getD_eq_getElem?_getD, h, Option.getD_some]
theorem zw_at {ro : Nat → Nat} {ga : Nat → ClassId} {I : AI} {F : AR} {sh : AS} {a : Nat} {x : Nat × va_E} (h : (zw ro ga I F sh)[a]? = some x) : ∃ q, sh[a]? = some q ∧ x = (ro a, zc ro ga I F q a) := by
  have hl : a < sh.length := by
    have := (List.getElem?_eq_some_iff.mp h).1
    rwa [zw_len] at this
  have e : sh[a]? = some sh[a] := List.getElem?_eq_getElem hl
  rw [zw_get e] at h
  exact ⟨_, e, (Option.some.inj h).symm⟩
theorem zw_set {ro : Nat → Nat} {ga : Nat → ClassId} {I J : AI} {F G : AR} {sh : AS} {a : Nat} {q : Nat × Nat} (h : sh[a]? = some q) (he : ∀ b q, b ≠ a → zc ro ga J G q b = zc ro ga I F q b) : (zw ro ga I F sh).set a (ro a, zc ro ga J G q a) = zw ro ga J G sh := by
  apply List.ext_getElem?
  intro b
  by_cases hb : b = a
  · subst hb
    have hl : b < sh.length := (List.getElem?_eq_some_iff.mp h).1
    rw [List.getElem?_set_self (by rw [zw_len]; exact hl), zw_get h]
  · rw [List.getElem?_set_ne (fun z => hb z.symm)]
    by_cases hl : b < sh.length
    · have e : sh[b]? = some sh[b] := List.getElem?_eq_getElem hl
      rw [zw_get e, zw_get e, he b _ hb]
    · rw [List.getElem?_eq_none (by rw [zw_len]; omega), List.getElem?_eq_none (by rw [zw_len]; omega)]
theorem zc_I {ro : Nat → Nat} {ga : Nat → ClassId} {I : AI} {F : AR} {a : Nat} {f : Nat → Int32} : ∀ (b : Nat) (q : Nat × Nat), b ≠ a → zc ro ga (va_up I a f) F q b = zc ro ga I F q b := by
  intro b q hb
  unfold zc zfs
  rw [show va_up I a f b = I b from if_neg hb]
theorem zc_F {ro : Nat → Nat} {ga : Nat → ClassId} {I : AI} {F : AR} {a : Nat} {f : Nat → Option Nat} : ∀ (b : Nat) (q : Nat × Nat), b ≠ a → zc ro ga I (va_up F a f) q b = zc ro ga I F q b := by
  intro b q hb
  unfold zc zfs
  rw [show va_up F a f b = F b from if_neg hb]
theorem va_up_s {α : Type} (f : Nat → α) (k : Nat) (v : α) : va_up f k v k = v := if_pos rfl
theorem va_up_n {α : Type} (f : Nat → α) {k j : Nat} (v : α) (h : j ≠ k) : va_up f k v j = f j := if_neg h
/-- one int place set -/
def zu (I : AI) (a k : Nat) (x : Int32) : AI := va_up I a (upd (I a) k x)
def zuR (F : AR) (a k : Nat) (x : Option Nat) : AR := va_up F a (va_up (F a) k x)
theorem zfs_get {ro : Nat → Nat} {I : AI} {F : AR} {c n a k : Nat} (h : k < n) : (zfs ro I F c n a)[k]? = some (if (zTy c k).isReference = true then va_rf ((F a k).map ro) else .int (I a k)) := by
  unfold zfs
  rw [List.getElem?_map, List.getElem?_range h]
  rfl
theorem zfs_len {ro : Nat → Nat} {I : AI} {F : AR} {c n a : Nat} : (zfs ro I F c n a).length = n := by simp [zfs]
theorem zfs_setI {ro : Nat → Nat} {I : AI} {F : AR} {c n a k : Nat} {x : Int32} (h : k < n) (hr : (zTy c k).isReference = false) : (zfs ro I F c n a).set k (.int x) = zfs ro (zu I a k x) F c n a := by
  apply List.ext_getElem?
  intro j
  by_cases hj : j = k
  · subst hj
    rw [List.getElem?_set_self (by rw [zfs_len]; exact h), zfs_get h, hr]
    simp [zu, va_up, upd]
  · rw [List.getElem?_set_ne (fun z => hj z.symm)]
    by_cases hl : j < n
    · rw [zfs_get hl, zfs_get hl]
      simp [zu, va_up, upd, hj]
    · rw [List.getElem?_eq_none (by rw [zfs_len]; omega), List.getElem?_eq_none (by rw [zfs_len]; omega)]
theorem zfs_setF {ro : Nat → Nat} {I : AI} {F : AR} {c n a k b : Nat} (h : k < n) (hr : (zTy c k).isReference = true) : (zfs ro I F c n a).set k (.ref (ro b)) = zfs ro I (zuR F a k (some b)) c n a := by
  apply List.ext_getElem?
  intro j
  by_cases hj : j = k
  · subst hj
    rw [List.getElem?_set_self (by rw [zfs_len]; exact h), zfs_get h, hr]
    simp [zuR, va_up, va_rf]
  · rw [List.getElem?_set_ne (fun z => hj z.symm)]
    by_cases hl : j < n
    · rw [zfs_get hl, zfs_get hl]
      simp [zuR, va_up, hj]
    · rw [List.getElem?_eq_none (by rw [zfs_len]; omega), List.getElem?_eq_none (by rw [zfs_len]; omega)]
/-! locals -/
def zh (ro : Nat → Nat) (ls : Array Slot) (n : Nat) (L : List (Option Value)) : Prop := ls.size = n ∧ lv_wf ls ∧ ∀ (i : Nat) (v : Value), L[i]? = some (some v) → ls[i]? = some (.val (zv ro v))
def zl (ro : Nat → Nat) (L : List (Option Value)) : List (Nat × Value) := (List.range L.length).filterMap (fun i => (L.getD i none).map (fun v => (i, zv ro v)))
theorem zl_in {ro : Nat → Nat} {L : List (Option Value)} {i : Nat} {v : Value} : (i, v) ∈ zl ro L ↔ ∃ u, L[i]? = some (some u) ∧ v = zv ro u := by
  unfold zl
  rw [List.mem_filterMap]
  constructor
  · rintro ⟨j, hj, h⟩
    rw [List.getD_eq_getElem?_getD, List.getElem?_eq_getElem (List.mem_range.mp hj), Option.getD_some] at h
    cases hu : L[j]'(List.mem_range.mp hj) with
    | none => rw [hu] at h; cases h
    | some u =>
      rw [hu] at h
      simp only [Option.map_some, Option.some.injEq, Prod.mk.injEq] at h
      obtain ⟨rfl, rfl⟩ := h
      exact ⟨u, by rw [List.getElem?_eq_getElem (List.mem_range.mp hj), hu], rfl⟩
  · rintro ⟨u, h, rfl⟩
    have hl := (List.getElem?_eq_some_iff.mp h).1
    refine ⟨i, List.mem_range.mpr hl, ?_⟩
    rw [List.getD_eq_getElem?_getD, h]
    rfl
theorem zh_has {ro : Nat → Nat} {ls : Array Slot} {n : Nat} {L : List (Option Value)} (h : zh ro ls n L) : lv_has ls n (zl ro L) := by
  refine ⟨h.1, h.2.1, fun q hq => ?_⟩
  obtain ⟨i, v⟩ := q
  obtain ⟨u, hu, rfl⟩ := zl_in.mp hq
  exact h.2.2 i u hu
theorem zh_at {ro : Nat → Nat} {ls : Array Slot} {n : Nat} {L : List (Option Value)} (h : zh ro ls n L) {i : Nat} {v : Value} (hi : L[i]? = some (some v)) : ls[i]? = some (.val (zv ro v)) := h.2.2 i v hi
/-- a long's first half just ahead of a place -/
def zlong (L : List (Option Value)) (i : Nat) : Bool := match i with
  | 0 => false
  | j + 1 => match L[j]? with
    | some (some v) => v.category == 2
    | _ => false
theorem zh_set1 {ro : Nat → Nat} {ls : Array Slot} {n i : Nat} {L : List (Option Value)} {v : Value} (hl : zlong L i = false) (h : lv_has ls n ((i, zv ro v) :: (zl ro L).filter (fun q => !(q.1 == i) && !(q.1 + 1 == i && q.2.category == 2)))) : zh ro ls n (L.set i (some v)) := by
  refine ⟨h.1, h.2.1, fun j u hu => ?_⟩
  by_cases hj : j = i
  · subst hj
    have hl2 : j < L.length := by
      have := (List.getElem?_eq_some_iff.mp hu).1
      rwa [List.length_set] at this
    rw [List.getElem?_set_self hl2] at hu
    cases hu
    exact h.2.2 (j, zv ro v) List.mem_cons_self
  · rw [List.getElem?_set_ne (fun z => hj z.symm)] at hu
    refine h.2.2 (j, zv ro u) (List.mem_cons_of_mem _ (List.mem_filter.mpr ⟨zl_in.mpr ⟨u, hu, rfl⟩, ?_⟩))
    have h1 : (j == i) = false := by simpa using hj
    simp only [h1, Bool.not_false, Bool.true_and, Bool.not_eq_true', Bool.and_eq_false_iff]
    by_cases hji : j + 1 = i
    · right
      subst hji
      unfold zlong at hl
      simp only [hu] at hl
      rw [zv_cat]
      exact hl
    · left
      simpa using hji
theorem zh_set2 {ro : Nat → Nat} {ls : Array Slot} {n i : Nat} {L : List (Option Value)} {x : Int64} (hl : zlong L i = false) (h : lv_has ls n ((i, Value.long x) :: (zl ro L).filter (fun q => !(q.1 == i) && (!(q.1 == i + 1) && !(q.1 + 1 == i && q.2.category == 2))))) : zh ro ls n ((L.set i (some (.long x))).set (i + 1) none) := by
  refine ⟨h.1, h.2.1, fun j u hu => ?_⟩
  by_cases hj1 : j = i + 1
  · subst hj1
    have hl2 : i + 1 < (L.set i (some (Value.long x))).length := by
      have := (List.getElem?_eq_some_iff.mp hu).1
      rwa [List.length_set] at this
    rw [List.getElem?_set_self hl2] at hu
    cases hu
  · rw [List.getElem?_set_ne (fun z => hj1 z.symm)] at hu
    by_cases hj : j = i
    · subst hj
      have hl2 : j < L.length := by
        have := (List.getElem?_eq_some_iff.mp hu).1
        rwa [List.length_set] at this
      rw [List.getElem?_set_self hl2] at hu
      cases hu
      exact h.2.2 (j, .long x) List.mem_cons_self
    · rw [List.getElem?_set_ne (fun z => hj z.symm)] at hu
      refine h.2.2 (j, zv ro u) (List.mem_cons_of_mem _ (List.mem_filter.mpr ⟨zl_in.mpr ⟨u, hu, rfl⟩, ?_⟩))
      have h1 : (j == i) = false := by simpa using hj
      have h2 : (j == i + 1) = false := by simpa using hj1
      simp only [h1, h2, Bool.not_false, Bool.true_and, Bool.not_eq_true', Bool.and_eq_false_iff]
      by_cases hji : j + 1 = i
      · right
        subst hji
        unfold zlong at hl
        simp only [hu] at hl
        rw [zv_cat]
        exact hl
      · left
        simpa using hji
