/-! rows that read and write the memory -/
section ZHeap
variable {l : Launch} {D : va_G} {M : ZM} {pc : Nat} {L : List (Option Value)} {S : List Value} {I : AI} {F : AR} {sh : AS} {v : Option Int32} {I' : AI} {F' : AR} {sh' : AS}
theorem ZX.w {p : Program} {R : Room} {s : State} {m : MethodId} {args : Array Value} {meth : Method} {c : Code} {A : Nat → Prop} (hX : ZX D M p R s m args meth c A) {w : Cond} (h : w ∈ zT) : w.before args s = true := hX.2.2.2.2.1 w (List.mem_cons_of_mem _ h)
theorem ZX.n {p : Program} {R : Room} {s : State} {m : MethodId} {args : Array Value} {meth : Method} {c : Code} {A : Nat → Prop} (hX : ZX D M p R s m args meth c A) {w : Cond} (h : w ∈ zNl) : va_Nw w s := hX.2.2.2.2.2.1 w h
/-- the link of a field access: of the own class, or of a nest mate -/
def zFl (own : String) (idx : Nat) (c k : Nat) : Prop := Cond.fieldLink own idx (zTb c k).1 (zTb c k).2.1 (zTb c k).2.2.1 ∈ zT ∨ ∃ host, Cond.fieldLinkNest own idx (zTb c k).1 (zTb c k).2.1 (zTb c k).2.2.1 host ∈ zNl
theorem R_get {idx c k n a : Nat} (hd : decode M.2.1 pc = .ok (.getfield idx, 3)) (hf : zFl M.1.cls idx c k) (hs : sh[a]? = some (c, n)) (hc : c < 13) (hk : k < n) (hn : n = zNf c) (kk : ZR l D M (pc + 3) L ((if (zTy c k).isReference = true then (match F a k with | none => .null | some b => .ref b) else .int (I a k)) :: S) I F sh v I' F' sh') : ZR l D M pc L (.ref a :: S) I F sh v I' F' sh' := by
  intro p e R s m args below meth c0 A H locs cells slots Q ro ga ls hX hZ hl hcc hss hr
  subst hn
  have hv := zfs_get (ro := ro) (I := I) (F := F) (c := c) (a := a) hk
  have he := zw_get (ro := ro) (ga := ga) (I := I) (F := F) hs
  rw [zc_o hc] at he
  have K := kk p e R s m args below meth c0 A H locs cells slots Q ro ga ls hX hZ hl hcc hss hr
  have ev : zv ro (if (zTy c k).isReference = true then (match F a k with | none => .null | some b => .ref b) else .int (I a k)) = (if (zTy c k).isReference = true then va_rf ((F a k).map ro) else .int (I a k)) := by
    by_cases h : (zTy c k).isReference = true
    · rw [if_pos h, if_pos h]
      cases F a k <;> rfl
    · rw [if_neg h, if_neg h]
      rfl
  rw [List.map_cons, ev] at K
  rcases hf with hf | ⟨host, hf⟩
  · exact va_get (ci := c) (C := zRn c) (T := zTb c) (N := zNf c) hX.1 hX.2.1 hX.2.2.2.2.1 (fun w hw => List.mem_cons_of_mem _ (z_u hc w hw)) hX.2.2.2.1 hZ.2.2.2.1.1 hZ.1 a he (z_cl hc) k hk (hX.w hf) (fun _ h9 => h9) hv hd K
  · exact va_getN (ci := c) (C := zRn c) (T := zTb c) (N := zNf c) hX.1 hX.2.1 hX.2.2.2.2.1 (fun w hw => List.mem_cons_of_mem _ (z_u hc w hw)) hX.2.2.2.1 hZ.2.2.2.1.1 hZ.1 a he (z_cl hc) k hk (va_Nw.use rfl (hX.n hf)) (fun _ h9 => h9) hv hd K
/-- an int field read -/
theorem R_geti {idx a : Nat} (c k : Nat) {n : Nat} {x : Int32} (hd : decode M.2.1 pc = .ok (.getfield idx, 3)) (hf : zFl M.1.cls idx c k) (hs : sh[a]? = some (c, n)) (hc : (decide (c < 13) && decide (k < n) && decide (n = zNf c) && !(zTy c k).isReference) = true) (hx : I a k = x) (kk : ZR l D M (pc + 3) L (.int x :: S) I F sh v I' F' sh') : ZR l D M pc L (.ref a :: S) I F sh v I' F' sh' := by
  simp only [Bool.and_eq_true, decide_eq_true_eq, Bool.not_eq_true'] at hc
  refine R_get hd hf hs hc.1.1.1 hc.1.1.2 hc.1.2 ?_
  rw [hc.2, if_neg (by simp), hx]
  exact kk
/-- a reference field read -/
theorem R_getr {idx a : Nat} (c k : Nat) {n b : Nat} (hd : decode M.2.1 pc = .ok (.getfield idx, 3)) (hf : zFl M.1.cls idx c k) (hs : sh[a]? = some (c, n)) (hc : (decide (c < 13) && decide (k < n) && decide (n = zNf c) && (zTy c k).isReference) = true) (hx : F a k = some b) (kk : ZR l D M (pc + 3) L (.ref b :: S) I F sh v I' F' sh') : ZR l D M pc L (.ref a :: S) I F sh v I' F' sh' := by
  simp only [Bool.and_eq_true, decide_eq_true_eq] at hc
  refine R_get hd hf hs hc.1.1.1 hc.1.1.2 hc.1.2 ?_
  rw [if_pos hc.2, hx]
  exact kk
/-- a store of an int field -/
theorem R_puti {idx a : Nat} (c k : Nat) {n : Nat} {x : Int32} (hd : decode M.2.1 pc = .ok (.putfield idx, 3)) (hf : zFl M.1.cls idx c k) (hs : sh[a]? = some (c, n)) (hc : (decide (c < 13) && decide (k < n) && decide (n = zNf c) && !(zTy c k).isReference && !(zTb c k).2.2.2) = true) (hn : narrow (zTy c k) (.int x) = .int x) (hfit : fits (zTy c k) (.int x) = true) (kk : ZR l D M (pc + 3) L S (zu I a k x) F sh v I' F' sh') : ZR l D M pc L (.int x :: .ref a :: S) I F sh v I' F' sh' := by
  simp only [Bool.and_eq_true, decide_eq_true_eq, Bool.not_eq_true'] at hc
  obtain ⟨⟨⟨⟨h1, h2⟩, h3⟩, h4⟩, h5⟩ := hc
  intro p e R s m args below meth c0 A H locs cells slots Q ro ga ls hX hZ hl hcc hss hr
  subst h3
  have he := zw_get (ro := ro) (ga := ga) (I := I) (F := F) hs
  rw [zc_o h1] at he
  have hset : (zw ro ga I F sh).set a (ro a, .inr (c, (zfs ro I F c (zNf c) a).set k (.int x))) = zw ro ga (zu I a k x) F sh := by
    rw [zfs_setI h2 h4, ← zc_o (ga := ga) h1]
    exact zw_set hs zc_I
  have K : ∀ (H1 : Heap) (locs1 : List Loc), va_P D vwCl ((zw ro ga I F sh).set a (ro a, .inr (c, (zfs ro I F c (zNf c) a).set k (.int x)))) H1 → va_D A ((zw ro ga I F sh).set a (ro a, .inr (c, (zfs ro I F c (zNf c) a).set k (.int x)))) → va_S A s.heap H1 locs1 → W p l e R s m args below meth c0 H1 locs1 cells slots Q (F0 m (pc + 3) ls (S.map (zv ro))) := by
    intro H1 locs1 p1 d1 s1
    rw [hset] at p1 d1
    exact kk p e R s m args below meth c0 A H1 locs1 cells slots Q ro ga ls hX ⟨p1, d1, s1, hZ.2.2.2.1, hZ.2.2.2.2⟩ hl hcc hss hr
  rcases hf with hf | ⟨host, hf⟩
  · exact va_put (ci := c) (C := zRn c) (T := zTb c) (N := zNf c) hX.1 hX.2.1 hX.2.2.2.2.1 (fun w hw => List.mem_cons_of_mem _ (z_u h1 w hw)) (zTy c) (z_ty h1) (z_nm h1) hX.2.2.2.1 hZ.2.2.2.1.1 hZ.1 hZ.2.1 hZ.2.2.1 a he (z_cl h1) k h2 (hX.w hf) (fun _ h9 => h9) h5 (z_ty h1 k h2) hn hfit (by rw [zfs_len]; exact h2) hd K
  · exact va_putN (ci := c) (C := zRn c) (T := zTb c) (N := zNf c) hX.1 hX.2.1 hX.2.2.2.2.1 (fun w hw => List.mem_cons_of_mem _ (z_u h1 w hw)) (zTy c) (z_ty h1) (z_nm h1) hX.2.2.2.1 hZ.2.2.2.1.1 hZ.1 hZ.2.1 hZ.2.2.1 a he (z_cl h1) k h2 (va_Nw.use rfl (hX.n hf)) (fun _ h9 => h9) h5 (z_ty h1 k h2) hn hfit (by rw [zfs_len]; exact h2) hd K
/-- a store of a reference field, the value a cell that is there -/
theorem R_putr {idx a : Nat} (c k : Nat) {n b : Nat} (hd : decode M.2.1 pc = .ok (.putfield idx, 3)) (hf : zFl M.1.cls idx c k) (hs : sh[a]? = some (c, n)) (hc : (decide (c < 13) && decide (k < n) && decide (n = zNf c) && (zTy c k).isReference) = true) (hfin : (zTb c k).2.2.2 = false ∨ (M.1.name = "<init>" ∧ (zTb c k).1 = M.1.cls ∧ Cond.fieldLink M.1.cls idx (zTb c k).1 (zTb c k).2.1 (zTb c k).2.2.1 ∈ zT)) (hb : b < sh.length) (hn : ∀ q : Nat, narrow (zTy c k) (.ref q) = .ref q) (hfit : ∀ q : Nat, fits (zTy c k) (.ref q) = true) (kk : ZR l D M (pc + 3) L S I (zuR F a k (some b)) sh v I' F' sh') : ZR l D M pc L (.ref b :: .ref a :: S) I F sh v I' F' sh' := by
  simp only [Bool.and_eq_true, decide_eq_true_eq] at hc
  obtain ⟨⟨⟨h1, h2⟩, h3⟩, h4⟩ := hc
  intro p e R s m args below meth c0 A H locs cells slots Q ro ga ls hX hZ hl hcc hss hr
  subst h3
  have he := zw_get (ro := ro) (ga := ga) (I := I) (F := F) hs
  rw [zc_o h1] at he
  have hset : (zw ro ga I F sh).set a (ro a, .inr (c, (zfs ro I F c (zNf c) a).set k (.ref (ro b)))) = zw ro ga I (zuR F a k (some b)) sh := by
    rw [zfs_setF h2 h4, ← zc_o (ga := ga) h1]
    exact zw_set hs zc_F
  have hw : zFw (zuR F a k (some b)) sh.length := by
    intro x y z hz
    unfold zuR va_up at hz
    by_cases e1 : x = a
    · rw [if_pos e1] at hz
      by_cases e2 : y = k
      · rw [if_pos e2] at hz
        cases hz
        exact hb
      · rw [if_neg e2] at hz
        exact hZ.2.2.2.2 _ _ _ hz
    · rw [if_neg e1] at hz
      exact hZ.2.2.2.2 _ _ _ hz
  have K : ∀ (H1 : Heap) (locs1 : List Loc), va_P D vwCl ((zw ro ga I F sh).set a (ro a, .inr (c, (zfs ro I F c (zNf c) a).set k (.ref (ro b))))) H1 → va_D A ((zw ro ga I F sh).set a (ro a, .inr (c, (zfs ro I F c (zNf c) a).set k (.ref (ro b))))) → va_S A s.heap H1 locs1 → W p l e R s m args below meth c0 H1 locs1 cells slots Q (F0 m (pc + 3) ls (S.map (zv ro))) := by
    intro H1 locs1 p1 d1 s1
    rw [hset] at p1 d1
    exact kk p e R s m args below meth c0 A H1 locs1 cells slots Q ro ga ls hX ⟨p1, d1, s1, hZ.2.2.2.1, hw⟩ hl hcc hss hr
  rcases hfin with h5 | ⟨hi, h5, h6⟩
  · rcases hf with hf | ⟨host, hf⟩
    · exact va_put (ci := c) (C := zRn c) (T := zTb c) (N := zNf c) hX.1 hX.2.1 hX.2.2.2.2.1 (fun w hw => List.mem_cons_of_mem _ (z_u h1 w hw)) (zTy c) (z_ty h1) (z_nm h1) hX.2.2.2.1 hZ.2.2.2.1.1 hZ.1 hZ.2.1 hZ.2.2.1 a he (z_cl h1) k h2 (hX.w hf) (fun _ h9 => h9) h5 (z_ty h1 k h2) (hn _) (hfit _) (by rw [zfs_len]; exact h2) hd K
    · exact va_putN (ci := c) (C := zRn c) (T := zTb c) (N := zNf c) hX.1 hX.2.1 hX.2.2.2.2.1 (fun w hw => List.mem_cons_of_mem _ (z_u h1 w hw)) (zTy c) (z_ty h1) (z_nm h1) hX.2.2.2.1 hZ.2.2.2.1.1 hZ.1 hZ.2.1 hZ.2.2.1 a he (z_cl h1) k h2 (va_Nw.use rfl (hX.n hf)) (fun _ h9 => h9) h5 (z_ty h1 k h2) (hn _) (hfit _) (by rw [zfs_len]; exact h2) hd K
  · by_cases h7 : (zTb c k).2.2.2 = true
    · exact va_putF (ci := c) (C := zRn c) (T := zTb c) (N := zNf c) hX.1 hX.2.1 hX.2.2.2.2.1 (fun w hw => List.mem_cons_of_mem _ (z_u h1 w hw)) (zTy c) (z_ty h1) (z_nm h1) hX.2.2.2.1 hZ.2.2.2.1.1 hZ.1 hZ.2.1 hZ.2.2.1 a he (z_cl h1) k h2 (hX.w h6) (fun _ h9 => h9) h7 (hX.2.2.2.2.2.2.2.2.2 hi) h5 (z_ty h1 k h2) (hn _) (hfit _) (by rw [zfs_len]; exact h2) hd K
    · exact va_put (ci := c) (C := zRn c) (T := zTb c) (N := zNf c) hX.1 hX.2.1 hX.2.2.2.2.1 (fun w hw => List.mem_cons_of_mem _ (z_u h1 w hw)) (zTy c) (z_ty h1) (z_nm h1) hX.2.2.2.1 hZ.2.2.2.1.1 hZ.1 hZ.2.1 hZ.2.2.1 a he (z_cl h1) k h2 (hX.w h6) (fun _ h9 => h9) (by simpa using h7) (z_ty h1 k h2) (hn _) (hfit _) (by rw [zfs_len]; exact h2) hd K
/-! arrays -/
theorem zarr {ro : Nat → Nat} {ga : Nat → ClassId} {s : State} {A : Nat → Prop} {H : Heap} {locs : List Loc} {a k n : Nat} (hZ : ZS D s A ro ga I F sh H locs) (hs : sh[a]? = some (k, n)) (h1 : 13 ≤ k) (h2 : k < 17) : (zw ro ga I F sh)[a]? = some (ro a, .inl (ga a, n, .inl (I a))) ∧ va_K D vwCl [(ga a, zKt k)] s := by
  have he := zw_get (ro := ro) (ga := ga) (I := I) (F := F) hs
  rw [zc_i (by omega) h2] at he
  exact ⟨he, hZ.2.2.2.1.2 a _ hs h1⟩
theorem z_in {i : Int32} {j n : Nat} (hi : i = nI j) (hj : j < n) (hn : n < 2 ^ 31) : vp_in i n ∧ i.toNatClampNeg = j := by
  subst hi
  exact ⟨vp_in_nI hj hn, nI_clamp (by omega)⟩
theorem R_iald {a n : Nat} {i : Int32} {x : Int32} (j : Nat) (hd : decode M.2.1 pc = .ok (.iaload, 1)) (hs : sh[a]? = some (15, n)) (hi : i = nI j) (hj : j < n) (hn : n < 2 ^ 31) (hx : I a j = x) (kk : ZR l D M (pc + 1) L (.int x :: S) I F sh v I' F' sh') : ZR l D M pc L (.int i :: .ref a :: S) I F sh v I' F' sh' := by
  intro p e R s m args below meth c A H locs cells slots Q ro ga ls hX hZ hl hc hss hr
  obtain ⟨e1, e2⟩ := zarr hZ hs (by omega) (by omega)
  obtain ⟨h1, h2⟩ := z_in hi hj hn
  refine va_iald hX.1 hX.2.1 e2 hZ.1 a 0 e1 rfl h1 hd ?_
  rw [h2, hx]
  exact kk p e R s m args below meth c A H locs cells slots Q ro ga ls hX hZ hl hc hss hr
theorem R_bald {a n : Nat} {i : Int32} {x : Int32} (j : Nat) (hd : decode M.2.1 pc = .ok (.baload, 1)) (hs : sh[a]? = some (13, n)) (hi : i = nI j) (hj : j < n) (hn : n < 2 ^ 31) (hx : I a j = x) (kk : ZR l D M (pc + 1) L (.int x :: S) I F sh v I' F' sh') : ZR l D M pc L (.int i :: .ref a :: S) I F sh v I' F' sh' := by
  intro p e R s m args below meth c A H locs cells slots Q ro ga ls hX hZ hl hc hss hr
  obtain ⟨e1, e2⟩ := zarr hZ hs (by omega) (by omega)
  obtain ⟨h1, h2⟩ := z_in hi hj hn
  refine va_bald hX.1 hX.2.1 e2 hZ.1 a 0 e1 rfl h1 hd ?_
  rw [h2, hx]
  exact kk p e R s m args below meth c A H locs cells slots Q ro ga ls hX hZ hl hc hss hr
theorem R_zald {a n : Nat} {i : Int32} {x : Int32} (j : Nat) (hd : decode M.2.1 pc = .ok (.baload, 1)) (hs : sh[a]? = some (16, n)) (hi : i = nI j) (hj : j < n) (hn : n < 2 ^ 31) (hx : I a j = x) (kk : ZR l D M (pc + 1) L (.int x :: S) I F sh v I' F' sh') : ZR l D M pc L (.int i :: .ref a :: S) I F sh v I' F' sh' := by
  intro p e R s m args below meth c A H locs cells slots Q ro ga ls hX hZ hl hc hss hr
  obtain ⟨e1, e2⟩ := zarr hZ hs (by omega) (by omega)
  obtain ⟨h1, h2⟩ := z_in hi hj hn
  refine va_zald hX.1 hX.2.1 e2 hZ.1 a 0 e1 rfl h1 hd ?_
  rw [h2, hx]
  exact kk p e R s m args below meth c A H locs cells slots Q ro ga ls hX hZ hl hc hss hr
theorem R_cald {a n : Nat} {i : Int32} {x : Int32} (j : Nat) (hd : decode M.2.1 pc = .ok (.caload, 1)) (hs : sh[a]? = some (14, n)) (hi : i = nI j) (hj : j < n) (hn : n < 2 ^ 31) (hx : I a j = x) (kk : ZR l D M (pc + 1) L (.int x :: S) I F sh v I' F' sh') : ZR l D M pc L (.int i :: .ref a :: S) I F sh v I' F' sh' := by
  intro p e R s m args below meth c A H locs cells slots Q ro ga ls hX hZ hl hc hss hr
  obtain ⟨e1, e2⟩ := zarr hZ hs (by omega) (by omega)
  obtain ⟨h1, h2⟩ := z_in hi hj hn
  refine va_cald hX.1 hX.2.1 e2 hZ.1 a 0 e1 rfl h1 hd ?_
  rw [h2, hx]
  exact kk p e R s m args below meth c A H locs cells slots Q ro ga ls hX hZ hl hc hss hr
theorem R_iast {a n : Nat} {i : Int32} {x : Int32} (j : Nat) (hd : decode M.2.1 pc = .ok (.iastore, 1)) (hs : sh[a]? = some (15, n)) (hi : i = nI j) (hj : j < n) (hn : n < 2 ^ 31) (kk : ZR l D M (pc + 1) L S (zu I a j x) F sh v I' F' sh') : ZR l D M pc L (.int x :: .int i :: .ref a :: S) I F sh v I' F' sh' := by
  intro p e R s m args below meth c A H locs cells slots Q ro ga ls hX hZ hl hc hss hr
  obtain ⟨e1, e2⟩ := zarr hZ hs (by omega) (by omega)
  obtain ⟨h1, h2⟩ := z_in hi hj hn
  refine va_iast hX.1 hX.2.1 e2 hZ.1 hZ.2.1 hZ.2.2.1 a 0 e1 rfl h1 hd (fun H1 locs1 p1 d1 s1 => ?_)
  have hset : (zw ro ga I F sh).set a (ro a, .inl (ga a, n, .inl (upd (I a) i.toNatClampNeg x))) = zw ro ga (zu I a j x) F sh := by
    have h3 := zw_set (ro := ro) (ga := ga) (I := I) (J := zu I a j x) (F := F) (G := F) hs zc_I
    rw [zc_i (by omega) (by omega)] at h3
    rw [← h3, h2]
    simp [zu, va_up]
  rw [hset] at p1 d1
  exact kk p e R s m args below meth c A H1 locs1 cells slots Q ro ga ls hX ⟨p1, d1, s1, hZ.2.2.2.1, hZ.2.2.2.2⟩ hl hc hss hr
theorem R_bast {a n : Nat} {i : Int32} {x : Int32} (j : Nat) (hd : decode M.2.1 pc = .ok (.bastore, 1)) (hs : sh[a]? = some (13, n)) (hi : i = nI j) (hj : j < n) (hn : n < 2 ^ 31) (kk : ZR l D M (pc + 1) L S (zu I a j (vp_nar .byte x)) F sh v I' F' sh') : ZR l D M pc L (.int x :: .int i :: .ref a :: S) I F sh v I' F' sh' := by
  intro p e R s m args below meth c A H locs cells slots Q ro ga ls hX hZ hl hc hss hr
  obtain ⟨e1, e2⟩ := zarr hZ hs (by omega) (by omega)
  obtain ⟨h1, h2⟩ := z_in hi hj hn
  refine va_bast hX.1 hX.2.1 e2 hZ.1 hZ.2.1 hZ.2.2.1 a 0 e1 rfl h1 hd (fun H1 locs1 p1 d1 s1 => ?_)
  have hset : (zw ro ga I F sh).set a (ro a, .inl (ga a, n, .inl (upd (I a) i.toNatClampNeg (vp_nar .byte x)))) = zw ro ga (zu I a j (vp_nar .byte x)) F sh := by
    have h3 := zw_set (ro := ro) (ga := ga) (I := I) (J := zu I a j (vp_nar .byte x)) (F := F) (G := F) hs zc_I
    rw [zc_i (by omega) (by omega)] at h3
    rw [← h3, h2]
    simp [zu, va_up]
  rw [hset] at p1 d1
  exact kk p e R s m args below meth c A H1 locs1 cells slots Q ro ga ls hX ⟨p1, d1, s1, hZ.2.2.2.1, hZ.2.2.2.2⟩ hl hc hss hr
theorem R_zast {a n : Nat} {i : Int32} {x : Int32} (j : Nat) (hd : decode M.2.1 pc = .ok (.bastore, 1)) (hs : sh[a]? = some (16, n)) (hi : i = nI j) (hj : j < n) (hn : n < 2 ^ 31) (kk : ZR l D M (pc + 1) L S (zu I a j (vp_nar .boolean x)) F sh v I' F' sh') : ZR l D M pc L (.int x :: .int i :: .ref a :: S) I F sh v I' F' sh' := by
  intro p e R s m args below meth c A H locs cells slots Q ro ga ls hX hZ hl hc hss hr
  obtain ⟨e1, e2⟩ := zarr hZ hs (by omega) (by omega)
  obtain ⟨h1, h2⟩ := z_in hi hj hn
  refine va_zast hX.1 hX.2.1 e2 hZ.1 hZ.2.1 hZ.2.2.1 a 0 e1 rfl h1 hd (fun H1 locs1 p1 d1 s1 => ?_)
  have hset : (zw ro ga I F sh).set a (ro a, .inl (ga a, n, .inl (upd (I a) i.toNatClampNeg (vp_nar .boolean x)))) = zw ro ga (zu I a j (vp_nar .boolean x)) F sh := by
    have h3 := zw_set (ro := ro) (ga := ga) (I := I) (J := zu I a j (vp_nar .boolean x)) (F := F) (G := F) hs zc_I
    rw [zc_i (by omega) (by omega)] at h3
    rw [← h3, h2]
    simp [zu, va_up]
  rw [hset] at p1 d1
  exact kk p e R s m args below meth c A H1 locs1 cells slots Q ro ga ls hX ⟨p1, d1, s1, hZ.2.2.2.1, hZ.2.2.2.2⟩ hl hc hss hr
theorem R_cast {a n : Nat} {i : Int32} {x : Int32} (j : Nat) (hd : decode M.2.1 pc = .ok (.castore, 1)) (hs : sh[a]? = some (14, n)) (hi : i = nI j) (hj : j < n) (hn : n < 2 ^ 31) (kk : ZR l D M (pc + 1) L S (zu I a j (vp_nar .char x)) F sh v I' F' sh') : ZR l D M pc L (.int x :: .int i :: .ref a :: S) I F sh v I' F' sh' := by
  intro p e R s m args below meth c A H locs cells slots Q ro ga ls hX hZ hl hc hss hr
  obtain ⟨e1, e2⟩ := zarr hZ hs (by omega) (by omega)
  obtain ⟨h1, h2⟩ := z_in hi hj hn
  refine va_cast hX.1 hX.2.1 e2 hZ.1 hZ.2.1 hZ.2.2.1 a 0 e1 rfl h1 hd (fun H1 locs1 p1 d1 s1 => ?_)
  have hset : (zw ro ga I F sh).set a (ro a, .inl (ga a, n, .inl (upd (I a) i.toNatClampNeg (vp_nar .char x)))) = zw ro ga (zu I a j (vp_nar .char x)) F sh := by
    have h3 := zw_set (ro := ro) (ga := ga) (I := I) (J := zu I a j (vp_nar .char x)) (F := F) (G := F) hs zc_I
    rw [zc_i (by omega) (by omega)] at h3
    rw [← h3, h2]
    simp [zu, va_up]
  rw [hset] at p1 d1
  exact kk p e R s m args below meth c A H1 locs1 cells slots Q ro ga ls hX ⟨p1, d1, s1, hZ.2.2.2.1, hZ.2.2.2.2⟩ hl hc hss hr
theorem R_alen {a k n : Nat} {x : Int32} (hd : decode M.2.1 pc = .ok (.arraylength, 1)) (hs : sh[a]? = some (k, n)) (h1 : 13 ≤ k) (h2 : k < 17) (hx : nI n = x) (kk : ZR l D M (pc + 1) L (.int x :: S) I F sh v I' F' sh') : ZR l D M pc L (.ref a :: S) I F sh v I' F' sh' := by
  intro p e R s m args below meth c A H locs cells slots Q ro ga ls hX hZ hl hc hss hr
  obtain ⟨e1, e2⟩ := zarr hZ hs h1 h2
  exact va_alen hX.1 hX.2.1 e2 hZ.1 a 0 e1 rfl hx hd (kk p e R s m args below meth c A H locs cells slots Q ro ga ls hX hZ hl hc hss hr)
theorem zarq {ro : Nat → Nat} {ga : Nat → ClassId} {s : State} {A : Nat → Prop} {H : Heap} {locs : List Loc} {a k n : Nat} (hZ : ZS D s A ro ga I F sh H locs) (hs : sh[a]? = some (k, n)) (h2 : ¬ k < 17) : (zw ro ga I F sh)[a]? = some (ro a, .inl (ga a, n, .inr (.inr (.inr (.inr (fun j => (F a j).map ro)))))) ∧ va_K D vwCl [(ga a, zKt k)] s := by
  have he := zw_get (ro := ro) (ga := ga) (I := I) (F := F) hs
  rw [zc_r h2] at he
  exact ⟨he, hZ.2.2.2.1.2 a _ hs (by show 13 ≤ k; omega)⟩
/-- a row of references read, its place held -/
theorem R_aald {a k n b : Nat} {i : Int32} (j : Nat) (hd : decode M.2.1 pc = .ok (.aaload, 1)) (hs : sh[a]? = some (k, n)) (hk : (k == 17 || k == 18) = true) (hi : i = nI j) (hj : j < n) (hn : n < 2 ^ 31) (hx : F a j = some b) (kk : ZR l D M (pc + 1) L (.ref b :: S) I F sh v I' F' sh') : ZR l D M pc L (.int i :: .ref a :: S) I F sh v I' F' sh' := by
  intro p e R s m args below meth c A H locs cells slots Q ro ga ls hX hZ hl hc hss hr
  have hk2 : k = 17 ∨ k = 18 := by simpa using hk
  obtain ⟨e1, e2⟩ := zarq hZ hs (by omega)
  obtain ⟨h1, h2⟩ := z_in hi hj hn
  have K := kk p e R s m args below meth c A H locs cells slots Q ro ga ls hX hZ hl hc hss hr
  have hty : (zKt k).isReference = true := by rcases hk2 with rfl | rfl <;> rfl
  have hlt : i.toNatClampNeg < n := by omega
  refine W.aald (v := .ref (ro b)) (ty := zKt k) hX.1 hX.2.1 (hZ.1 a _ e1) ((e2.2 0 _ rfl).1 n (fun j => va_rf ((F a j).map ro))) hty (fun q => by cases q) (by show ¬ (i < 0 ∨ (arrV _ _ _).slots.size ≤ _); rw [arrV_size]; exact h1) (by show (arrV _ _ _).slots[_]? = _; rw [arrV_read _ _ hlt, h2]; show some (va_rf (Option.map ro (F a j))) = _; rw [hx]; rfl) rfl rfl hd K
theorem R_copyi {a0 a1 n0 n1 idx : Nat} {sp dp n : Int32} (j : Nat) (hd : decode M.2.1 pc = .ok (.invokestatic idx, 3)) (hl0 : Cond.methodLink M.1.cls idx arraycopyName ∈ zT) (hnat : Cond.native arraycopyName ∈ zT) (hst : Cond.static arraycopyName ∈ zT) (hin : Cond.initialized "java/lang/System" ∈ zT) (hs0 : sh[a0]? = some (15, n0)) (hs1 : sh[a1]? = some (15, n1)) (hsp : sp = 0) (hdp : dp = 0) (hn : n = nI j) (hj0 : j ≤ n0) (hj1 : j ≤ n1) (hj : j < 2 ^ 31) (hf : 1 ≤ M.2.2.2.2.1) (hlo : (S.map fun v => v.category).sum + (nativeFrameWords "java/lang/System" "arraycopy" 5 + 11) ≤ M.2.2.2.2.2.1) (kk : ZR l D M (pc + 3) L S (va_up I a1 (va_cpy (I a0) (I a1) 0 0 j)) F sh v I' F' sh') : ZR l D M pc L (.int n :: .int dp :: .ref a1 :: .int sp :: .ref a0 :: S) I F sh v I' F' sh' := by
  intro p e R s m args below meth c A H locs cells slots Q ro ga ls hX hZ hl hc hss hr
  obtain ⟨e1, e2⟩ := zarr hZ hs0 (by omega) (by omega)
  obtain ⟨f1, f2⟩ := zarr hZ hs1 (by omega) (by omega)
  subst hsp hdp hn
  have hz : (0 : Int32).toNatClampNeg = 0 := rfl
  have hcat : ((S.map (zv ro)).map fun v => v.category).sum = (S.map fun v => v.category).sum := by
    rw [List.map_map]
    congr 1
    exact List.map_congr_left (fun a _ => zv_cat ro a)
  refine va_copyi (own := M.1.cls) hX.1 hX.2.1 (by rw [hl.1]; exact hX.2.2.1) hX.2.2.2.1 (hX.w hl0) (hX.w hnat) (hX.w hst) (hX.w hin) (va_K.app e2 f2) hZ.1 hZ.2.1 hZ.2.2.1 a0 a1 0 1 e1 f1 rfl rfl rfl (by decide) (by decide) (nI_pos hj) (by rw [hz, nI_clamp hj]; omega) (by rw [hz, nI_clamp hj]; omega) (fun i hi => rfl) (Nat.le_trans hf hX.2.2.2.2.2.2.1) (by rw [hcat]; exact Nat.le_trans hlo hX.2.2.2.2.2.2.2.1) hd (fun H1 locs1 p1 d1 s1 => ?_)
  have hset : (zw ro ga I F sh).set a1 (ro a1, .inl (ga a1, n1, .inl (va_cpy (I a0) (I a1) (0 : Int32).toNatClampNeg (0 : Int32).toNatClampNeg (nI j).toNatClampNeg))) = zw ro ga (va_up I a1 (va_cpy (I a0) (I a1) 0 0 j)) F sh := by
    have h3 := zw_set (ro := ro) (ga := ga) (I := I) (J := va_up I a1 (va_cpy (I a0) (I a1) 0 0 j)) (F := F) (G := F) hs1 zc_I
    rw [zc_i (by omega) (by omega)] at h3
    rw [← h3, hz, nI_clamp hj]
    simp [va_up]
  rw [hset] at p1 d1
  exact kk p e R s m args below meth c A H1 locs1 cells slots Q ro ga ls hX ⟨p1, d1, s1, hZ.2.2.2.1, hZ.2.2.2.2⟩ hl hc hss hr
end ZHeap
