/-! THE JUDGEMENT ONCE MORE, with a premise Y of what lies outside the memory (the script, the text), for methods that make cells: the shape grows -/
abbrev YP : Type := State → (Nat → Prop) → (Nat → Nat) → Prop
def zYo (Y : YP) : Prop := (∀ (s U : State) (A B : Nat → Prop) (r : Nat → Nat) (locs : List Loc), Y s A r → va_S A s.heap U.heap locs → s.WarmedH U.vm → (∀ q, B q → A q) → Y U B r) ∧ ∀ (a : Array Value) (U : State) (A : Nat → Prop) (r : Nat → Nat) g mk, Y U A r → Y (U.calling g mk a) A r
def YT : YP := fun _ _ _ => True
theorem zYo_T : zYo YT := ⟨fun _ _ _ _ _ _ _ _ _ _ => trivial, fun _ _ _ _ _ _ _ => trivial⟩
def ZY (Y : YP) (l : Launch) (D : va_G) (M : ZM) (pc : Nat) (L : List (Option Value)) (S : List Value) (I : AI) (F : AR) (sh : AS) (v : Option Int32) (I' : AI) (F' : AR) (sh' : AS) : Prop :=
  ∀ (p : Program) (e : Env) (R : Room) (s : State) (m : MethodId) (args : Array Value) (below : List Frame) (meth : Method) (c : Code) (A : Nat → Prop) (H : Heap) (locs : List Loc) (cells slots : Nat) (Q : State → Prop) (ro : Nat → Nat) (ga : Nat → ClassId) (ls : Array Slot),
    Y s A (fun i => ro (90000 + i)) → ZX D M p R s m args meth c A → ZS D s A ro ga I F sh H locs → zh ro ls M.2.2.1 L → cells + (sh'.length - sh.length) ≤ R.cells → slots + (zsl sh' - zsl sh) ≤ R.slots →
    ZE l D M sh v I' F' sh' p e R s m args below meth c A cells slots Q ro ga →
    W p l e R s m args below meth c H locs cells slots Q (F0 m pc ls (S.map (zv ro)))
def ZC (Y : YP) (l : Launch) (D : va_G) (M : ZM) (shf : AS) (pc : Nat) (L : List (Option Value)) (S : List Value) (I : AI) (F : AR) (sh : AS) (Post : Option Int32 → AI → AR → Prop) : Prop := ∃ (v : Option Int32) (I' : AI) (F' : AR), ZY Y l D M pc L S I F sh v I' F' shf ∧ Post v I' F'
section YRows
variable {Y : YP} {l : Launch} {D : va_G} {M : ZM} {pc : Nat} {L : List (Option Value)} {S : List Value} {I : AI} {F : AR} {sh : AS} {v : Option Int32} {I' : AI} {F' : AR} {sh' : AS}
theorem ZR.y (h : ZR l D M pc L S I F sh v I' F' sh') : ZY Y l D M pc L S I F sh v I' F' sh' := fun p e R s m args below meth c A H locs cells slots Q ro ga ls _ hX hZ hl hc hs hr => h p e R s m args below meth c A H locs cells slots Q ro ga ls hX hZ hl hc hs hr
theorem ZY.r (h : ZY YT l D M pc L S I F sh v I' F' sh') : ZR l D M pc L S I F sh v I' F' sh' := fun p e R s m args below meth c A H locs cells slots Q ro ga ls hX hZ hl hc hs hr => h p e R s m args below meth c A H locs cells slots Q ro ga ls trivial hX hZ hl hc hs hr
theorem Y_iadd {x y : Int32} (hd : decode M.2.1 pc = .ok (.iadd, 1))  (k : ZY Y l D M (pc + 1) L (.int (x + y) :: S) I F sh v I' F' sh') : ZY Y l D M (pc) L (.int y :: .int x :: S) I F sh v I' F' sh' := by
  intro p e R s m args below meth c A H locs cells slots Q ro ga ls hY hX hZ hl hc hs hr
  exact lv_iadd hX.1 hX.2.1 hd  (k p e R s m args below meth c A H locs cells slots Q ro ga ls hY hX hZ hl hc hs hr)
theorem Y_isub {x y : Int32} (hd : decode M.2.1 pc = .ok (.isub, 1))  (k : ZY Y l D M (pc + 1) L (.int (x - y) :: S) I F sh v I' F' sh') : ZY Y l D M (pc) L (.int y :: .int x :: S) I F sh v I' F' sh' := by
  intro p e R s m args below meth c A H locs cells slots Q ro ga ls hY hX hZ hl hc hs hr
  exact lv_isub hX.1 hX.2.1 hd  (k p e R s m args below meth c A H locs cells slots Q ro ga ls hY hX hZ hl hc hs hr)
theorem Y_iand {x y : Int32} (hd : decode M.2.1 pc = .ok (.iand, 1))  (k : ZY Y l D M (pc + 1) L (.int (x &&& y) :: S) I F sh v I' F' sh') : ZY Y l D M (pc) L (.int y :: .int x :: S) I F sh v I' F' sh' := by
  intro p e R s m args below meth c A H locs cells slots Q ro ga ls hY hX hZ hl hc hs hr
  exact lv_iand hX.1 hX.2.1 hd  (k p e R s m args below meth c A H locs cells slots Q ro ga ls hY hX hZ hl hc hs hr)
theorem Y_ishr {x y : Int32} (hd : decode M.2.1 pc = .ok (.ishr, 1))  (k : ZY Y l D M (pc + 1) L (.int (x >>> (y &&& 31)) :: S) I F sh v I' F' sh') : ZY Y l D M (pc) L (.int y :: .int x :: S) I F sh v I' F' sh' := by
  intro p e R s m args below meth c A H locs cells slots Q ro ga ls hY hX hZ hl hc hs hr
  exact lv_ishr hX.1 hX.2.1 hd  (k p e R s m args below meth c A H locs cells slots Q ro ga ls hY hX hZ hl hc hs hr)
theorem Y_i2c {x : Int32} (hd : decode M.2.1 pc = .ok (.i2c, 1))  (k : ZY Y l D M (pc + 1) L (.int (x.toUInt32 % 65536).toInt32 :: S) I F sh v I' F' sh') : ZY Y l D M (pc) L (.int x :: S) I F sh v I' F' sh' := by
  intro p e R s m args below meth c A H locs cells slots Q ro ga ls hY hX hZ hl hc hs hr
  exact lv_i2c hX.1 hX.2.1 hd rfl (k p e R s m args below meth c A H locs cells slots Q ro ga ls hY hX hZ hl hc hs hr)
theorem Y_dup {a : Value} (hd : decode M.2.1 pc = .ok (.dup, 1)) (ha : a.category = 1) (k : ZY Y l D M (pc + 1) L (a :: a :: S) I F sh v I' F' sh') : ZY Y l D M (pc) L (a :: S) I F sh v I' F' sh' := by
  intro p e R s m args below meth c A H locs cells slots Q ro ga ls hY hX hZ hl hc hs hr
  exact lv_dup hX.1 hX.2.1 hd (by rw [zv_cat]; exact ha) (k p e R s m args below meth c A H locs cells slots Q ro ga ls hY hX hZ hl hc hs hr)
theorem Y_pop {a : Value} (hd : decode M.2.1 pc = .ok (.pop, 1)) (ha : a.category = 1) (k : ZY Y l D M (pc + 1) L (S) I F sh v I' F' sh') : ZY Y l D M (pc) L (a :: S) I F sh v I' F' sh' := by
  intro p e R s m args below meth c A H locs cells slots Q ro ga ls hY hX hZ hl hc hs hr
  exact lv_pop hX.1 hX.2.1 hd (by rw [zv_cat]; exact ha) (k p e R s m args below meth c A H locs cells slots Q ro ga ls hY hX hZ hl hc hs hr)
theorem Y_iconst {n : Int} {x : Int32} (hd : decode M.2.1 pc = .ok (.iconst n, 1)) (hv : Int32.ofInt n = x) (k : ZY Y l D M (pc + 1) L (.int x :: S) I F sh v I' F' sh') : ZY Y l D M (pc) L (S) I F sh v I' F' sh' := by
  intro p e R s m args below meth c A H locs cells slots Q ro ga ls hY hX hZ hl hc hs hr
  exact lv_iconst hX.1 hX.2.1 hd hv (k p e R s m args below meth c A H locs cells slots Q ro ga ls hY hX hZ hl hc hs hr)
theorem Y_bipush {n : Int} {x : Int32} (hd : decode M.2.1 pc = .ok (.bipush n, 2)) (hv : (Int8.ofInt n).toInt32 = x) (k : ZY Y l D M (pc + 2) L (.int x :: S) I F sh v I' F' sh') : ZY Y l D M (pc) L (S) I F sh v I' F' sh' := by
  intro p e R s m args below meth c A H locs cells slots Q ro ga ls hY hX hZ hl hc hs hr
  exact lv_bipush hX.1 hX.2.1 hd hv (k p e R s m args below meth c A H locs cells slots Q ro ga ls hY hX hZ hl hc hs hr)
theorem Y_sipush {n : Int} {x : Int32} (hd : decode M.2.1 pc = .ok (.sipush n, 3)) (hv : (Int16.ofInt n).toInt32 = x) (k : ZY Y l D M (pc + 3) L (.int x :: S) I F sh v I' F' sh') : ZY Y l D M (pc) L (S) I F sh v I' F' sh' := by
  intro p e R s m args below meth c A H locs cells slots Q ro ga ls hY hX hZ hl hc hs hr
  exact lv_sipush hX.1 hX.2.1 hd hv (k p e R s m args below meth c A H locs cells slots Q ro ga ls hY hX hZ hl hc hs hr)
theorem Y_iload_n {n : Fin 4} {x : Int32} (hd : decode M.2.1 pc = .ok (.iload_n n, 1)) (hL : L[(n : Nat)]? = some (some (.int x))) (k : ZY Y l D M (pc + 1) L (.int x :: S) I F sh v I' F' sh') : ZY Y l D M (pc) L (S) I F sh v I' F' sh' := by
  intro p e R s m args below meth c A H locs cells slots Q ro ga ls hY hX hZ hl hc hs hr
  exact lv_iload_n hX.1 hX.2.1 hd rfl (zh_at hl hL) (k p e R s m args below meth c A H locs cells slots Q ro ga ls hY hX hZ hl hc hs hr)
theorem Y_aload_n {n : Fin 4} {x : Nat} (hd : decode M.2.1 pc = .ok (.aload_n n, 1)) (hL : L[(n : Nat)]? = some (some (.ref x))) (k : ZY Y l D M (pc + 1) L (.ref x :: S) I F sh v I' F' sh') : ZY Y l D M (pc) L (S) I F sh v I' F' sh' := by
  intro p e R s m args below meth c A H locs cells slots Q ro ga ls hY hX hZ hl hc hs hr
  exact lv_aload_n hX.1 hX.2.1 hd rfl (zh_at hl hL) (k p e R s m args below meth c A H locs cells slots Q ro ga ls hY hX hZ hl hc hs hr)
theorem Y_istore_n {n : Fin 4} {x : Int32} (hd : decode M.2.1 pc = .ok (.istore_n n, 1)) (hn : (n : Nat) < M.2.2.1) (hg : zlong L (n : Nat) = false) (k : ZY Y l D M (pc + 1) (L.set (n : Nat) (some (.int x))) (S) I F sh v I' F' sh') : ZY Y l D M (pc) L (.int x :: S) I F sh v I' F' sh' := by
  intro p e R s m args below meth c A H locs cells slots Q ro ga ls hY hX hZ hl hc hs hr
  exact lv_istore_n hX.1 hX.2.1 hd rfl (zh_has hl) hn rfl (fun ls' hl' => k p e R s m args below meth c A H locs cells slots Q ro ga ls' hY hX hZ (zh_set1 (v := .int x) hg hl') hc hs hr)
theorem Y_astore_n {n : Fin 4} {x : Nat} (hd : decode M.2.1 pc = .ok (.astore_n n, 1)) (hn : (n : Nat) < M.2.2.1) (hg : zlong L (n : Nat) = false) (k : ZY Y l D M (pc + 1) (L.set (n : Nat) (some (.ref x))) (S) I F sh v I' F' sh') : ZY Y l D M (pc) L (.ref x :: S) I F sh v I' F' sh' := by
  intro p e R s m args below meth c A H locs cells slots Q ro ga ls hY hX hZ hl hc hs hr
  exact lv_astore_n hX.1 hX.2.1 hd rfl (zh_has hl) hn rfl (fun ls' hl' => k p e R s m args below meth c A H locs cells slots Q ro ga ls' hY hX hZ (zh_set1 (v := .ref x) hg hl') hc hs hr)
theorem Y_iinc {i : Nat} {n : Int} {x y : Int32} (hd : decode M.2.1 pc = .ok (.iinc i n, 3)) (hL : L[i]? = some (some (.int x))) (hv : x + Int32.ofInt n = y) (hn : i < M.2.2.1) (hg : zlong L i = false) (k : ZY Y l D M (pc + 3) (L.set i (some (.int y))) (S) I F sh v I' F' sh') : ZY Y l D M (pc) L (S) I F sh v I' F' sh' := by
  intro p e R s m args below meth c A H locs cells slots Q ro ga ls hY hX hZ hl hc hs hr
  obtain ⟨q, hq⟩ := List.getElem?_of_mem (zl_in (ro := ro) (v := .int x).mpr ⟨_, hL, rfl⟩)
  exact lv_iinc hX.1 hX.2.1 hd (zh_has hl) hq hv hn rfl (fun ls' hl' => k p e R s m args below meth c A H locs cells slots Q ro ga ls' hY hX hZ (zh_set1 (v := .int y) hg hl') hc hs hr)
theorem Y_goto {off : Int} {tgt : Nat} (hd : decode M.2.1 pc = .ok (.goto off, 3)) (ht : (pc : Int) + off = (tgt : Int)) (k : ZY Y l D M (tgt) L (S) I F sh v I' F' sh') : ZY Y l D M (pc) L (S) I F sh v I' F' sh' := by
  intro p e R s m args below meth c A H locs cells slots Q ro ga ls hY hX hZ hl hc hs hr
  exact lv_goto hX.1 hX.2.1 hd ht (k p e R s m args below meth c A H locs cells slots Q ro ga ls hY hX hZ hl hc hs hr)
theorem Y_icmp_eq {x y : Int32} {off : Int} {tgt : Nat} (hd : decode M.2.1 pc = .ok (.if_icmp .eq off, 3)) (ht : (pc : Int) + off = (tgt : Int)) (kt : x = y → ZY Y l D M (tgt) L (S) I F sh v I' F' sh') (kf : ¬ x = y → ZY Y l D M (pc + 3) L (S) I F sh v I' F' sh') : ZY Y l D M (pc) L (.int y :: .int x :: S) I F sh v I' F' sh' := by
  intro p e R s m args below meth c A H locs cells slots Q ro ga ls hY hX hZ hl hc hs hr
  exact lv_icmp_eq hX.1 hX.2.1 hd ht (fun h => kt h p e R s m args below meth c A H locs cells slots Q ro ga ls hY hX hZ hl hc hs hr) (fun h => kf h p e R s m args below meth c A H locs cells slots Q ro ga ls hY hX hZ hl hc hs hr)
theorem Y_icmp_ge {x y : Int32} {off : Int} {tgt : Nat} (hd : decode M.2.1 pc = .ok (.if_icmp .ge off, 3)) (ht : (pc : Int) + off = (tgt : Int)) (kt : y ≤ x → ZY Y l D M (tgt) L (S) I F sh v I' F' sh') (kf : ¬ y ≤ x → ZY Y l D M (pc + 3) L (S) I F sh v I' F' sh') : ZY Y l D M (pc) L (.int y :: .int x :: S) I F sh v I' F' sh' := by
  intro p e R s m args below meth c A H locs cells slots Q ro ga ls hY hX hZ hl hc hs hr
  exact lv_icmp_ge hX.1 hX.2.1 hd ht (fun h => kt h p e R s m args below meth c A H locs cells slots Q ro ga ls hY hX hZ hl hc hs hr) (fun h => kf h p e R s m args below meth c A H locs cells slots Q ro ga ls hY hX hZ hl hc hs hr)
theorem Y_icmp_gt {x y : Int32} {off : Int} {tgt : Nat} (hd : decode M.2.1 pc = .ok (.if_icmp .gt off, 3)) (ht : (pc : Int) + off = (tgt : Int)) (kt : y < x → ZY Y l D M (tgt) L (S) I F sh v I' F' sh') (kf : ¬ y < x → ZY Y l D M (pc + 3) L (S) I F sh v I' F' sh') : ZY Y l D M (pc) L (.int y :: .int x :: S) I F sh v I' F' sh' := by
  intro p e R s m args below meth c A H locs cells slots Q ro ga ls hY hX hZ hl hc hs hr
  exact lv_icmp_gt hX.1 hX.2.1 hd ht (fun h => kt h p e R s m args below meth c A H locs cells slots Q ro ga ls hY hX hZ hl hc hs hr) (fun h => kf h p e R s m args below meth c A H locs cells slots Q ro ga ls hY hX hZ hl hc hs hr)
theorem Y_icmp_lt {x y : Int32} {off : Int} {tgt : Nat} (hd : decode M.2.1 pc = .ok (.if_icmp .lt off, 3)) (ht : (pc : Int) + off = (tgt : Int)) (kt : x < y → ZY Y l D M (tgt) L (S) I F sh v I' F' sh') (kf : ¬ x < y → ZY Y l D M (pc + 3) L (S) I F sh v I' F' sh') : ZY Y l D M (pc) L (.int y :: .int x :: S) I F sh v I' F' sh' := by
  intro p e R s m args below meth c A H locs cells slots Q ro ga ls hY hX hZ hl hc hs hr
  exact lv_icmp_lt hX.1 hX.2.1 hd ht (fun h => kt h p e R s m args below meth c A H locs cells slots Q ro ga ls hY hX hZ hl hc hs hr) (fun h => kf h p e R s m args below meth c A H locs cells slots Q ro ga ls hY hX hZ hl hc hs hr)
theorem Y_if_eq {x : Int32} {off : Int} {tgt : Nat} (hd : decode M.2.1 pc = .ok (.ifCond .eq off, 3)) (ht : (pc : Int) + off = (tgt : Int)) (kt : x = 0 → ZY Y l D M (tgt) L (S) I F sh v I' F' sh') (kf : ¬ x = 0 → ZY Y l D M (pc + 3) L (S) I F sh v I' F' sh') : ZY Y l D M (pc) L (.int x :: S) I F sh v I' F' sh' := by
  intro p e R s m args below meth c A H locs cells slots Q ro ga ls hY hX hZ hl hc hs hr
  exact lv_if_eq hX.1 hX.2.1 hd ht (fun h => kt h p e R s m args below meth c A H locs cells slots Q ro ga ls hY hX hZ hl hc hs hr) (fun h => kf h p e R s m args below meth c A H locs cells slots Q ro ga ls hY hX hZ hl hc hs hr)
theorem Y_if_ne {x : Int32} {off : Int} {tgt : Nat} (hd : decode M.2.1 pc = .ok (.ifCond .ne off, 3)) (ht : (pc : Int) + off = (tgt : Int)) (kt : ¬ x = 0 → ZY Y l D M (tgt) L (S) I F sh v I' F' sh') (kf : x = 0 → ZY Y l D M (pc + 3) L (S) I F sh v I' F' sh') : ZY Y l D M (pc) L (.int x :: S) I F sh v I' F' sh' := by
  intro p e R s m args below meth c A H locs cells slots Q ro ga ls hY hX hZ hl hc hs hr
  exact lv_if_ne hX.1 hX.2.1 hd ht (fun h => kt h p e R s m args below meth c A H locs cells slots Q ro ga ls hY hX hZ hl hc hs hr) (fun h => kf h p e R s m args below meth c A H locs cells slots Q ro ga ls hY hX hZ hl hc hs hr)
theorem Y_if_lt {x : Int32} {off : Int} {tgt : Nat} (hd : decode M.2.1 pc = .ok (.ifCond .lt off, 3)) (ht : (pc : Int) + off = (tgt : Int)) (kt : x < 0 → ZY Y l D M (tgt) L (S) I F sh v I' F' sh') (kf : ¬ x < 0 → ZY Y l D M (pc + 3) L (S) I F sh v I' F' sh') : ZY Y l D M (pc) L (.int x :: S) I F sh v I' F' sh' := by
  intro p e R s m args below meth c A H locs cells slots Q ro ga ls hY hX hZ hl hc hs hr
  exact lv_if_lt hX.1 hX.2.1 hd ht (fun h => kt h p e R s m args below meth c A H locs cells slots Q ro ga ls hY hX hZ hl hc hs hr) (fun h => kf h p e R s m args below meth c A H locs cells slots Q ro ga ls hY hX hZ hl hc hs hr)
theorem Y_tableIn {dflt lo hi : Int} {offs : Array Int} {len : Nat} {x : Int32} {off : Int} {tgt : Nat} (hd : decode M.2.1 pc = .ok (.tableswitch dflt lo hi offs, len)) (h1 : ¬ x.toInt < lo) (h2 : ¬ hi < x.toInt) (ho : offs[(x.toInt - lo).toNat]? = some off) (ht : (pc : Int) + off = (tgt : Int)) (k : ZY Y l D M (tgt) L (S) I F sh v I' F' sh') : ZY Y l D M (pc) L (.int x :: S) I F sh v I' F' sh' := by
  intro p e R s m args below meth c A H locs cells slots Q ro ga ls hY hX hZ hl hc hs hr
  exact lv_tableIn hX.1 hX.2.1 hd h1 h2 ho ht (k p e R s m args below meth c A H locs cells slots Q ro ga ls hY hX hZ hl hc hs hr)
theorem Y_tableOut {dflt lo hi : Int} {offs : Array Int} {len : Nat} {x : Int32} {tgt : Nat} (hd : decode M.2.1 pc = .ok (.tableswitch dflt lo hi offs, len)) (h : x.toInt < lo ∨ hi < x.toInt) (ht : (pc : Int) + dflt = (tgt : Int)) (k : ZY Y l D M (tgt) L (S) I F sh v I' F' sh') : ZY Y l D M (pc) L (.int x :: S) I F sh v I' F' sh' := by
  intro p e R s m args below meth c A H locs cells slots Q ro ga ls hY hX hZ hl hc hs hr
  exact lv_tableOut hX.1 hX.2.1 hd h ht (k p e R s m args below meth c A H locs cells slots Q ro ga ls hY hX hZ hl hc hs hr)
theorem Y_iret {x : Int32} (hd : decode M.2.1 pc = .ok (.ireturn, 1)) : ZY Y l D M pc L [.int x] I F sh (some x) I F sh := by
  intro p e R s m args below meth c A H locs cells slots Q ro ga ls hY hX hZ hl hc hs hr
  have h := hr H locs ro ga pc ls hZ zAg.rf hd
  simp only [Nat.sub_self, Nat.add_zero] at h
  exact h
theorem Y_ret (hd : decode M.2.1 pc = .ok (.return_, 1)) : ZY Y l D M pc L [] I F sh none I F sh := by
  intro p e R s m args below meth c A H locs cells slots Q ro ga ls hY hX hZ hl hc hs hr
  have h := hr H locs ro ga pc ls hZ zAg.rf hd
  simp only [Nat.sub_self, Nat.add_zero] at h
  exact h
theorem Y_get {idx c k n a : Nat} (hd : decode M.2.1 pc = .ok (.getfield idx, 3)) (hf : zFl M.1.cls idx c k) (hs : sh[a]? = some (c, n)) (hc : c < 13) (hk : k < n) (hn : n = zNf c) (kk : ZY Y l D M (pc + 3) L ((if (zTy c k).isReference = true then (match F a k with | none => .null | some b => .ref b) else .int (I a k)) :: S) I F sh v I' F' sh') : ZY Y l D M pc L (.ref a :: S) I F sh v I' F' sh' := by
  intro p e R s m args below meth c0 A H locs cells slots Q ro ga ls hY hX hZ hl hcc hss hr
  subst hn
  have hv := zfs_get (ro := ro) (I := I) (F := F) (c := c) (a := a) hk
  have he := zw_get (ro := ro) (ga := ga) (I := I) (F := F) hs
  rw [zc_o hc] at he
  have K := kk p e R s m args below meth c0 A H locs cells slots Q ro ga ls hY hX hZ hl hcc hss hr
  have ev : zv ro (if (zTy c k).isReference = true then (match F a k with | none => .null | some b => .ref b) else .int (I a k)) = (if (zTy c k).isReference = true then va_rf ((F a k).map ro) else .int (I a k)) := by
    by_cases h : (zTy c k).isReference = true
    · rw [if_pos h, if_pos h]
      cases F a k <;> rfl
    · rw [if_neg h, if_neg h]
      rfl
  rw [List.map_cons, ev] at K
  rcases hf with hf | ⟨host, hf⟩
  · exact va_get (ci := c) (C := zRn c) (T := zTb c) (N := zNf c) hX.1 hX.2.1 hX.2.2.2.2.1 (fun w hw => List.mem_cons_of_mem _ (z_u hc w hw)) hX.2.2.2.1 hZ.2.2.2.1.1 hZ.1 a he (z_cl hc) k hk (hX.w hf) (fun _ h9 => h9) hv hd K
  · exact va_getN (ci := c) (C := zRn c) (T := zTb c) (N := zNf c) hX.1 hX.2.1 hX.2.2.2.2.1 (fun w hw => List.mem_cons_of_mem _ (z_u hc w hw)) hX.2.2.2.1 hZ.2.2.2.1.1 hZ.1 a he (z_cl hc) k hk (va_Nw.use rfl (hX.n hf)) (fun _ h9 => h9) hv hd K
theorem Y_getr {idx a : Nat} (c k : Nat) {n b : Nat} (hd : decode M.2.1 pc = .ok (.getfield idx, 3)) (hf : zFl M.1.cls idx c k) (hs : sh[a]? = some (c, n)) (hc : (decide (c < 13) && decide (k < n) && decide (n = zNf c) && (zTy c k).isReference) = true) (hx : F a k = some b) (kk : ZY Y l D M (pc + 3) L (.ref b :: S) I F sh v I' F' sh') : ZY Y l D M pc L (.ref a :: S) I F sh v I' F' sh' := by
  simp only [Bool.and_eq_true, decide_eq_true_eq] at hc
  refine Y_get hd hf hs hc.1.1.1 hc.1.1.2 hc.1.2 ?_
  rw [if_pos hc.2, hx]
  exact kk
theorem Y_putr {idx a : Nat} (c k : Nat) {n b : Nat} (hd : decode M.2.1 pc = .ok (.putfield idx, 3)) (hf : zFl M.1.cls idx c k) (hs : sh[a]? = some (c, n)) (hc : (decide (c < 13) && decide (k < n) && decide (n = zNf c) && (zTy c k).isReference) = true) (hfin : (zTb c k).2.2.2 = false ∨ (M.1.name = "<init>" ∧ (zTb c k).1 = M.1.cls ∧ Cond.fieldLink M.1.cls idx (zTb c k).1 (zTb c k).2.1 (zTb c k).2.2.1 ∈ zT)) (hb : b < sh.length) (hn : ∀ q : Nat, narrow (zTy c k) (.ref q) = .ref q) (hfit : ∀ q : Nat, fits (zTy c k) (.ref q) = true) (kk : ZY Y l D M (pc + 3) L S I (zuR F a k (some b)) sh v I' F' sh') : ZY Y l D M pc L (.ref b :: .ref a :: S) I F sh v I' F' sh' := by
  simp only [Bool.and_eq_true, decide_eq_true_eq] at hc
  obtain ⟨⟨⟨h1, h2⟩, h3⟩, h4⟩ := hc
  intro p e R s m args below meth c0 A H locs cells slots Q ro ga ls hY hX hZ hl hcc hss hr
  subst h3
  have he := zw_get (ro := ro) (ga := ga) (I := I) (F := F) hs
  rw [zc_o h1] at he
  have hset : (zw ro ga I F sh).set a (ro a, .inr (c, (zfs ro I F c (zNf c) a).set k (.ref (ro b)))) = zw ro ga I (zuR F a k (some b)) sh := by
    rw [zfs_setF h2 h4, ← zc_o (ga := ga) h1]
    exact zw_set hs zc_F
  have hw : zFw (zuR F a k (some b)) sh.length := by
    intro x y z hz
    unfold zuR va_up at hz
    by_cases e1 : x = a
    · rw [if_pos e1] at hz
      by_cases e2 : y = k
      · rw [if_pos e2] at hz
        cases hz
        exact hb
      · rw [if_neg e2] at hz
        exact hZ.2.2.2.2 _ _ _ hz
    · rw [if_neg e1] at hz
      exact hZ.2.2.2.2 _ _ _ hz
  have K : ∀ (H1 : Heap) (locs1 : List Loc), va_P D vwCl ((zw ro ga I F sh).set a (ro a, .inr (c, (zfs ro I F c (zNf c) a).set k (.ref (ro b))))) H1 → va_D A ((zw ro ga I F sh).set a (ro a, .inr (c, (zfs ro I F c (zNf c) a).set k (.ref (ro b))))) → va_S A s.heap H1 locs1 → W p l e R s m args below meth c0 H1 locs1 cells slots Q (F0 m (pc + 3) ls (S.map (zv ro))) := by
    intro H1 locs1 p1 d1 s1
    rw [hset] at p1 d1
    exact kk p e R s m args below meth c0 A H1 locs1 cells slots Q ro ga ls hY hX ⟨p1, d1, s1, hZ.2.2.2.1, hw⟩ hl hcc hss hr
  rcases hfin with h5 | ⟨hi, h5, h6⟩
  · rcases hf with hf | ⟨host, hf⟩
    · exact va_put (ci := c) (C := zRn c) (T := zTb c) (N := zNf c) hX.1 hX.2.1 hX.2.2.2.2.1 (fun w hw => List.mem_cons_of_mem _ (z_u h1 w hw)) (zTy c) (z_ty h1) (z_nm h1) hX.2.2.2.1 hZ.2.2.2.1.1 hZ.1 hZ.2.1 hZ.2.2.1 a he (z_cl h1) k h2 (hX.w hf) (fun _ h9 => h9) h5 (z_ty h1 k h2) (hn _) (hfit _) (by rw [zfs_len]; exact h2) hd K
    · exact va_putN (ci := c) (C := zRn c) (T := zTb c) (N := zNf c) hX.1 hX.2.1 hX.2.2.2.2.1 (fun w hw => List.mem_cons_of_mem _ (z_u h1 w hw)) (zTy c) (z_ty h1) (z_nm h1) hX.2.2.2.1 hZ.2.2.2.1.1 hZ.1 hZ.2.1 hZ.2.2.1 a he (z_cl h1) k h2 (va_Nw.use rfl (hX.n hf)) (fun _ h9 => h9) h5 (z_ty h1 k h2) (hn _) (hfit _) (by rw [zfs_len]; exact h2) hd K
  · by_cases h7 : (zTb c k).2.2.2 = true
    · exact va_putF (ci := c) (C := zRn c) (T := zTb c) (N := zNf c) hX.1 hX.2.1 hX.2.2.2.2.1 (fun w hw => List.mem_cons_of_mem _ (z_u h1 w hw)) (zTy c) (z_ty h1) (z_nm h1) hX.2.2.2.1 hZ.2.2.2.1.1 hZ.1 hZ.2.1 hZ.2.2.1 a he (z_cl h1) k h2 (hX.w h6) (fun _ h9 => h9) h7 (hX.2.2.2.2.2.2.2.2.2 hi) h5 (z_ty h1 k h2) (hn _) (hfit _) (by rw [zfs_len]; exact h2) hd K
    · exact va_put (ci := c) (C := zRn c) (T := zTb c) (N := zNf c) hX.1 hX.2.1 hX.2.2.2.2.1 (fun w hw => List.mem_cons_of_mem _ (z_u h1 w hw)) (zTy c) (z_ty h1) (z_nm h1) hX.2.2.2.1 hZ.2.2.2.1.1 hZ.1 hZ.2.1 hZ.2.2.1 a he (z_cl h1) k h2 (hX.w h6) (fun _ h9 => h9) (by simpa using h7) (z_ty h1 k h2) (hn _) (hfit _) (by rw [zfs_len]; exact h2) hd K
theorem Y_iast {a n : Nat} {i : Int32} {x : Int32} (j : Nat) (hd : decode M.2.1 pc = .ok (.iastore, 1)) (hs : sh[a]? = some (15, n)) (hi : i = nI j) (hj : j < n) (hn : n < 2 ^ 31) (kk : ZY Y l D M (pc + 1) L S (zu I a j x) F sh v I' F' sh') : ZY Y l D M pc L (.int x :: .int i :: .ref a :: S) I F sh v I' F' sh' := by
  intro p e R s m args below meth c A H locs cells slots Q ro ga ls hY hX hZ hl hc hss hr
  obtain ⟨e1, e2⟩ := zarr hZ hs (by omega) (by omega)
  obtain ⟨h1, h2⟩ := z_in hi hj hn
  refine va_iast hX.1 hX.2.1 e2 hZ.1 hZ.2.1 hZ.2.2.1 a 0 e1 rfl h1 hd (fun H1 locs1 p1 d1 s1 => ?_)
  have hset : (zw ro ga I F sh).set a (ro a, .inl (ga a, n, .inl (upd (I a) i.toNatClampNeg x))) = zw ro ga (zu I a j x) F sh := by
    have h3 := zw_set (ro := ro) (ga := ga) (I := I) (J := zu I a j x) (F := F) (G := F) hs zc_I
    rw [zc_i (by omega) (by omega)] at h3
    rw [← h3, h2]
    simp [zu, va_up]
  rw [hset] at p1 d1
  exact kk p e R s m args below meth c A H1 locs1 cells slots Q ro ga ls hY hX ⟨p1, d1, s1, hZ.2.2.2.1, hZ.2.2.2.2⟩ hl hc hss hr
def zPcY (Y : YP) (D : va_G) (ro : Nat → Nat) (ga : Nat → ClassId) (I : AI) (F : AR) (sh : AS) (sz : Nat) (As : List Value) : Array Value → State → Prop := va_Pc (As.map (zv ro)) (fun U => U.heap.size = sz ∧ zB D (fun _ => True) ro ga I F sh U ∧ zNs U ∧ Y U (va_A (zw ro ga I F sh) sz) (fun i => ro (90000 + i)))
theorem zPcY_blind {ro : Nat → Nat} {ga : Nat → ClassId} {sz : Nat} {As : List Value} (hYo : zYo Y) : FrameBlind (zPcY Y D ro ga I F sh sz As) := by
  intro a U g mk h
  obtain ⟨h1, h2, h3, h4, h5⟩ := h
  exact ⟨h1, h2, h3.moved (u := U) (U := U.calling g mk a) (Vm.Alike.refl U.vm) rfl, zNs.same (u := U) (U := U.calling g mk a) rfl h4, hYo.2 a U _ _ g mk h5⟩
theorem zPcY_at {ro : Nat → Nat} {ga : Nat → ClassId} {s : State} {A : Nat → Prop} {H : Heap} {locs : List Loc} {As : List Value} (hYo : zYo Y) (hY : Y s A (fun i => ro (90000 + i))) (hA : ∀ q, s.heap.size ≤ q → A q) (hZ : ZS D s A ro ga I F sh H locs) (hN : zNs s) : ∀ U : State, U.heap = H → s.WarmedH U.vm → zPcY Y D ro ga I F sh H.size As (As.map (zv ro)).toArray U :=
  fun U hU hW => ⟨rfl, by rw [hU], ⟨by rw [hU]; exact hZ.1, hZ.2.2.2.1.moved hW.alike, ⟨hZ.2.1.1, fun _ _ _ => trivial⟩, hZ.2.2.2.2⟩, hN.warm hW, hYo.1 s U A _ _ locs hY (by rw [hU]; exact hZ.2.2.1) hW (zA_sub hZ hA)⟩
theorem Y_met {N : ZM} {As : List Value} {sz : Nat} {ro : Nat → Nat} {ga : Nat → ClassId} (hp : plainName N.1.cls = true) (hcat : (As.all fun a => a.category == 1) = true) (hlen : As.length ≤ N.2.2.1) (hret : zRet N.2.2.2.1 v) (h : ZY Y l D N 0 (zent N.2.2.1 As) [] I F sh v I' F' sh') :
    Met l N.1 (zws N) ({ frames := N.2.2.2.2.1, cells := sh'.length - sh.length, slots := zsl sh' - zsl sh, locals := N.2.2.2.2.2.1 }) (zPcY Y D ro ga I F sh sz As) (zQc D ro ga (va_A (zw ro ga I F sh) sz) sh v I' F' sh') (sh'.length - sh.length) (zsl sh' - zsl sh) (va_A (zw ro ga I F sh) sz) := by
  have hcat' : ∀ a ∈ As, a.category = 1 := fun a ha => by simpa using List.all_eq_true.mp hcat a ha
  refine Met.ofW (cc := N.2.1) (maxL := N.2.2.1) (ret := N.2.2.2.1) hp rfl ?_
  intro p e s m args below meth c s₁ B hml hv
  obtain ⟨rfl, hsz, ⟨hP, hK, hD0, hFw⟩, hNs, hY⟩ := hv
  have hr := B.returns
  have hts := atoms_spec (ws := zws N) B.pre
  have hown : s.vm.findClass N.1.cls = some m.cls := findClass_of_methodNamed B.named
  have hlocks := B.notSynchronized
  subst hsz
  have hD := hD0.self (sz := s.heap.size)
  generalize hAe : va_A (zw ro ga I F sh) s.heap.size = A at hD hY ⊢
  have hA : ∀ q : Nat, s.heap.size ≤ q → A q := fun q h => by rw [← hAe]; exact Or.inr h
  have hS : va_S A s.heap s.heap [] := va_S.rf
  have hl := lv_entry (As.map (zv ro)) (n := N.2.2.1) (by rw [zsl_len _ (fun x hx => by obtain ⟨y, hy, rfl⟩ := List.mem_map.mp hx; rw [zv_cat]; exact hcat' y hy), List.length_map]; exact hlen)
  rw [lg_entry_eq]
  generalize (lg_sl (As.map (zv ro)) ++ List.replicate (N.2.2.1 - (lg_sl (As.map (zv ro))).length) Slot.unset).toArray = ls at hl ⊢
  refine h p e _ s m _ below meth c A s.heap [] 0 0 _ ro ga ls hY ⟨B.exec, B.bytes, hml, hown, hts, hNs, Nat.le_refl _, Nat.le_refl _, hA, fun hn => (name_of_methodNamed B.named B.method).1.trans hn⟩ ⟨hP, hD, hS, hK, hFw⟩ (zh_entry hcat' hl) (Nat.le_of_eq (Nat.zero_add _)) (Nat.le_of_eq (Nat.zero_add _)) ?_
  intro H' locs' ro' ga' pc' ls' hZ hag hdec
  rw [Nat.zero_add, Nat.zero_add]
  have hq : ∀ t : State, t.heap = H' → s.WarmedH t.vm → zQc D ro ga A sh v I' F' sh' ((As.map (zv ro)).toArray) s (.returned (v.map Value.int)) t := fun t ht hW => ⟨rfl, ⟨ro', ga', ⟨by rw [ht]; exact hZ.1, hZ.2.2.2.1.moved hW.alike, hZ.2.1, hZ.2.2.2.2⟩, hag⟩, hZ.2.2.1.F ht⟩
  cases v with
  | none =>
    have hr0 : meth.sig.returnType = none := hr.trans hret
    exact W.vret B.exec B.bytes hr0 hq hZ.2.2.1.2.2 hdec
  | some x =>
    rcases hret with h1 | ⟨ty, h1, h2⟩
    · exact W.iret B.exec B.bytes (hr.trans h1) hq hZ.2.2.1.2.2 hdec
    · exact W.zret B.exec B.bytes (hr.trans h1) h2 hq hZ.2.2.1.2.2 hdec
theorem Y_after {J : AI} {G : AR} {th : AS} {u : Option Int32} {p : Program} {e : Env} {R : Room} {s : State} {m : MethodId} {args : Array Value} {below : List Frame} {meth : Method} {c : Code} {A : Nat → Prop} {H : Heap} {locs : List Loc} {cells slots : Nat} {Q : State → Prop} {ro : Nat → Nat} {ga : Nat → ClassId} {ls : Array Slot} {st0 : List Value} {a : Array Value}
    (hY : Y s A (fun i => ro (90000 + i))) (hX : ZX D M p R s m args meth c A) (hZ : ZS D s A ro ga I F sh H locs) (hl : zh ro ls M.2.2.1 L) (hc : cells + (sh'.length - sh.length) ≤ R.cells) (hs : slots + (zsl sh' - zsl sh) ≤ R.slots) (hr : ZE l D M sh v I' F' sh' p e R s m args below meth c A cells slots Q ro ga)
    (hnew : th = sh ∨ (sh.length < th.length ∧ th.length ≤ sh'.length ∧ zsl sh ≤ zsl th ∧ zsl th ≤ zsl sh' ∧ (∀ b, Value.ref b ∈ S → b < sh.length ∨ 90000 ≤ b) ∧ ∀ b, some (Value.ref b) ∈ L → b < sh.length ∨ 90000 ≤ b))
    (hrun : va_Run p l e R s m args below meth c H locs cells slots (th.length - sh.length) (zsl th - zsl sh) (F0 m pc ls st0) (S.map (zv ro)) (zQc D ro ga (va_A (zw ro ga I F sh) H.size) sh u J G th a) (va_A (zw ro ga I F sh) H.size))
    (kk : ZY Y l D M (pc + 3) L (u.toList.map Value.int ++ S) J G th v I' F' sh') : W p l e R s m args below meth c H locs cells slots Q (F0 m pc ls st0) := by
  intro T hT X
  obtain ⟨w, st₀, t, T', Lc, h0, X', hL, e1, e2, ⟨hw, ⟨ro', ga', hB, hag⟩, hz, hk⟩, st⟩ := hrun T hT X
  have hw' : w = u.map Value.int := by cases hw; rfl
  subst hw'
  rw [h0] at hz hk
  have hAs := zA_sub hZ hX.2.2.2.2.2.2.2.2.1
  have hS1 : va_S A s.heap T'.heap (locs ++ Lc) := ⟨Nat.le_trans hZ.2.2.1.1 (by rw [e1]; exact hz), fun q h1 h2 => by rw [e1, hk q (Nat.lt_of_lt_of_le h1 hZ.2.2.1.1) (fun z => h2 (hAs q z))]; exact hZ.2.2.1.2.1 q h1 h2, fun q hq => by
      rcases List.mem_append.mp hq with h | h
      · exact hZ.2.2.1.2.2 q h
      · exact hAs _ (hL q h)⟩
  have hvm : t.vm.Alike s.vm := by rw [← e2]; exact X'.warmed.alike.symm
  have hZ1 : ZS D s A ro' ga' J G th T'.heap (locs ++ Lc) := ⟨by rw [e1]; exact hB.1, ⟨hB.2.2.1.1, fun k q hq => hAs _ (hB.2.2.1.2 k q hq)⟩, hS1, hB.2.1.moved hvm, hB.2.2.2⟩
  have hstk : (u.map Value.int).toList ++ S.map (zv ro) = (u.toList.map Value.int ++ S).map (zv ro') := by
    have hSS : S.map (zv ro) = S.map (zv ro') := by
      rcases hnew with rfl | ⟨-, -, -, -, hS, -⟩
      · rw [(hag.2 rfl).1]
      · refine List.map_congr_left fun x hx => ?_
        cases x with
        | ref b => show Value.ref (ro b) = Value.ref (ro' b); rw [hag.1 b (hS b hx)]
        | _ => rfl
    rw [List.map_append, hSS]
    cases u <;> rfl
  have hl1 : zh ro' ls M.2.2.1 L := by
    rcases hnew with rfl | ⟨-, -, -, -, -, hLL⟩
    · rw [(hag.2 rfl).1]; exact hl
    · refine ⟨hl.1, hl.2.1, fun i x hi => ?_⟩
      rw [hl.2.2 i x hi]
      cases x with
      | ref b => show some (Slot.val (.ref (ro b))) = some (Slot.val (.ref (ro' b))); rw [hag.1 b (hLL b (List.mem_of_getElem? hi))]
      | _ => rfl
  have hcs : cells + (th.length - sh.length) + (sh'.length - th.length) = cells + (sh'.length - sh.length) ∧ slots + (zsl th - zsl sh) + (zsl sh' - zsl th) = slots + (zsl sh' - zsl sh) := by
    rcases hnew with rfl | ⟨h1, h2, h3, h4, -, -⟩
    · simp
    · omega
  have K := kk p e R s m args below meth c A T'.heap (locs ++ Lc) (cells + (th.length - sh.length)) (slots + (zsl th - zsl sh)) Q ro' ga' ls (by rw [show (fun i => ro' (90000 + i)) = (fun i => ro (90000 + i)) from funext fun i => hag.1 _ (Or.inr (Nat.le_add_right _ _))]; exact hY) hX hZ1 hl1 (by rw [hcs.1]; exact hc) (by rw [hcs.2]; exact hs) (by
    intro H2 locs2 ro2 ga2 pc2 ls2 hZ2 hag2 hd2
    rw [hcs.1, hcs.2]
    refine hr H2 locs2 ro2 ga2 pc2 ls2 hZ2 ?_ hd2
    rcases hnew with rfl | ⟨h1, h2, -, -, -, -⟩
    · obtain ⟨r1, r2⟩ := hag.2 rfl
      subst r1 r2
      exact hag2
    · refine ⟨fun b hb => ?_, fun hsh => ?_⟩
      · rw [hag2.1 b (by rcases hb with hb | hb <;> omega), hag.1 b hb]
      · subst hsh; omega)
  rw [← hstk] at K
  obtain ⟨t2, a1, b1⟩ := K T' rfl X'
  exact ⟨t2, st t2 a1, b1⟩
theorem Y_callV {N : ZM} {idx n b k kn : Nat} {As : List Value} {J : AI} {G : AR} {th : AS} {u : Option Int32} (hYo : zYo Y) (hN : ZY Y l D N 0 (zent N.2.2.1 (.ref b :: As)) [] I F sh u J G th) (hd : decode M.2.1 pc = .ok (.invokevirtual idx, 3)) (ho : zOk N n) (hm : zMl M.1.cls idx N.1) (hi : Cond.instanceMethod N.1 ∈ zT ∧ Cond.selects N.1.cls N.1 N.1 ∈ zT) (hrm : zRm M N) (hret : zRet N.2.2.2.1 u) (hcat : (As.all fun a => a.category == 1) = true) (hlen : As.length = n ∧ n + 1 ≤ N.2.2.1) (hb : sh[b]? = some (k, kn)) (hk : k < 13 ∧ zRn k = N.1.cls) (hst : (S.map fun v => v.category).sum ≤ 8) (hnew : zNew L S sh th sh')
    (kk : ZY Y l D M (pc + 3) L (u.toList.map Value.int ++ S) J G th v I' F' sh') : ZY Y l D M pc L (As.reverse ++ .ref b :: S) I F sh v I' F' sh' := by
  intro p e R s m args below meth c A H locs cells slots Q ro ga ls hY hX hZ hl hc hs hr
  have hM := Y_met (sz := H.size) (ro := ro) (ga := ga) ho.2.2.1 (As := .ref b :: As) (by rw [List.all_cons, hcat]; rfl) (by rw [List.length_cons]; omega) hret hN
  have he := zw_get (ro := ro) (ga := ga) (I := I) (F := F) hb
  rw [zc_o hk.1] at he
  have hrecv := va_recv (q := (zRn k, zTb k, zNf k)) hZ.2.2.2.1.1 hZ.1 (z_cl hk.1) he
  rw [hk.2] at hrecv
  have hfit := zfit (J := J) hc hs hnew
  have hpre : PreV s H N.1.cls (ro b) (zPcY Y D ro ga I F sh H.size (.ref b :: As)) (As.map (zv ro)) := ⟨zPcY_blind hYo, hrecv, zPcY_at hYo hY hX.2.2.2.2.2.2.2.2.1 hZ hX.2.2.2.2.2.1⟩
  have hstk : (As.reverse ++ .ref b :: S).map (zv ro) = (As.map (zv ro)).reverse ++ .ref (ro b) :: S.map (zv ro) := by
    rw [List.map_append, List.map_reverse]; rfl
  have hcode := ho.1
  have hRm : N.2.2.2.2.1 + 1 ≤ R.frames ∧ 8 + (N.2.2.1 + 11) + N.2.2.2.2.2.1 ≤ R.locals := ⟨Nat.le_trans hrm.1 hX.2.2.2.2.2.2.1, Nat.le_trans hrm.2 hX.2.2.2.2.2.2.2.1⟩
  refine Y_after (a := (Value.ref (ro b) :: As.map (zv ro)).toArray) hY hX hZ hl hc hs hr hnew ?_ kk
  rcases hm with hm | ⟨host, hm⟩
  · refine va_runV (n := n) (bytes := N.2.1) (maxL := N.2.2.1) (ret := N.2.2.2.1) (C := N.1.cls) (own := M.1.cls) (As := As.map (zv ro)) (rest := S.map (zv ro)) ⟨hX.1, hX.2.1, hX.2.2.1, hX.2.2.2.1, hX.2.2.2.2.1⟩ hM ⟨callB_of n hX.2.2.2.2.1 (z_goodIn hcode) rfl rfl rfl (hX.w ho.2.1) (hX.w hm) ho.2.2.2 hRm, hX.w hi.1, hX.w hi.2⟩ hpre rfl (by rw [List.length_map]; exact hlen.1) hl.1 hstk (lv_room (zcat hst)) hd hfit
  · refine va_runVN (n := n) (bytes := N.2.1) (maxL := N.2.2.1) (ret := N.2.2.2.1) (C := N.1.cls) (own := M.1.cls) (host := host) (As := As.map (zv ro)) (rest := S.map (zv ro)) ⟨hX.1, hX.2.1, hX.2.2.1, hX.2.2.2.1, hX.2.2.2.2.1⟩ hM ⟨va_cnB n hX.2.2.2.2.1 (z_goodIn hcode) rfl rfl rfl (hX.n hm) (hX.w ho.2.1) ho.2.2.2 hRm, hX.w hi.1, hX.w hi.2⟩ hpre rfl (by rw [List.length_map]; exact hlen.1) hl.1 hstk (lv_room (zcat hst)) hd hfit
theorem Y_callS {N : ZM} {idx n : Nat} {As : List Value} {J : AI} {G : AR} {th : AS} {u : Option Int32} (hYo : zYo Y) (hN : ZY Y l D N 0 (zent N.2.2.1 As) [] I F sh u J G th) (hd : decode M.2.1 pc = .ok (.invokestatic idx, 3)) (ho : zOk N n) (hm : zMl M.1.cls idx N.1) (hi : Cond.static N.1 ∈ zT) (hrm : zRm M N) (hret : zRet N.2.2.2.1 u) (hcat : (As.all fun a => a.category == 1) = true) (hlen : As.length = n ∧ n ≤ N.2.2.1) (hst : (S.map fun v => v.category).sum ≤ 8) (hnew : zNew L S sh th sh')
    (kk : ZY Y l D M (pc + 3) L (u.toList.map Value.int ++ S) J G th v I' F' sh') : ZY Y l D M pc L (As.reverse ++ S) I F sh v I' F' sh' := by
  intro p e R s m args below meth c A H locs cells slots Q ro ga ls hY hX hZ hl hc hs hr
  have hM := Y_met (sz := H.size) (ro := ro) (ga := ga) ho.2.2.1 (As := As) hcat (by omega) hret hN
  have hfit := zfit (J := J) hc hs hnew
  have hpre : PreS s H (zPcY Y D ro ga I F sh H.size As) (As.map (zv ro)) := ⟨zPcY_blind hYo, zPcY_at hYo hY hX.2.2.2.2.2.2.2.2.1 hZ hX.2.2.2.2.2.1⟩
  have hstk : (As.reverse ++ S).map (zv ro) = (As.map (zv ro)).reverse ++ S.map (zv ro) := by
    rw [List.map_append, List.map_reverse]
  have hcode := ho.1
  have hRm : N.2.2.2.2.1 + 1 ≤ R.frames ∧ 8 + (N.2.2.1 + 11) + N.2.2.2.2.2.1 ≤ R.locals := ⟨Nat.le_trans hrm.1 hX.2.2.2.2.2.2.1, Nat.le_trans hrm.2 hX.2.2.2.2.2.2.2.1⟩
  refine Y_after (a := (As.map (zv ro)).toArray) hY hX hZ hl hc hs hr hnew ?_ kk
  rcases hm with hm | ⟨host, hm⟩
  · refine va_runS (n := n) (bytes := N.2.1) (maxL := N.2.2.1) (ret := N.2.2.2.1) (own := M.1.cls) (As := As.map (zv ro)) (rest := S.map (zv ro)) ⟨hX.1, hX.2.1, hX.2.2.1, hX.2.2.2.1, hX.2.2.2.2.1⟩ hM ⟨callB_of n hX.2.2.2.2.1 (z_goodIn hcode) rfl rfl rfl (hX.w ho.2.1) (hX.w hm) ho.2.2.2 hRm, hX.w hi⟩ hpre rfl (by rw [List.length_map]; exact hlen.1) hl.1 hstk (lv_room (zcat hst)) hd hfit
  · refine va_runSN (n := n) (bytes := N.2.1) (maxL := N.2.2.1) (ret := N.2.2.2.1) (own := M.1.cls) (host := host) (As := As.map (zv ro)) (rest := S.map (zv ro)) ⟨hX.1, hX.2.1, hX.2.2.1, hX.2.2.2.1, hX.2.2.2.2.1⟩ hM ⟨va_cnB n hX.2.2.2.2.1 (z_goodIn hcode) rfl rfl rfl (hX.n hm) (hX.w ho.2.1) ho.2.2.2 hRm, hX.w hi, trivial⟩ hpre rfl (by rw [List.length_map]; exact hlen.1) hl.1 hstk (lv_room (zcat hst)) hd hfit
theorem Y_callI {N : ZM} {idx n b : Nat} {As : List Value} {J : AI} {G : AR} {th : AS} (hYo : zYo Y) (hN : ZY Y l D N 0 (zent N.2.2.1 (.ref b :: As)) [] I F sh none J G th) (hd : decode M.2.1 pc = .ok (.invokespecial idx, 3)) (ho : zOk N n) (hm : zMl M.1.cls idx N.1) (hi : Cond.instanceMethod N.1 ∈ zT ∧ N.1.name = "<init>" ∧ N.2.2.2.1 = none) (hrm : zRm M N) (hcat : (As.all fun a => a.category == 1) = true) (hlen : As.length = n ∧ n + 1 ≤ N.2.2.1) (hst : (S.map fun v => v.category).sum ≤ 8) (hnew : zNew L S sh th sh')
    (kk : ZY Y l D M (pc + 3) L S J G th v I' F' sh') : ZY Y l D M pc L (As.reverse ++ .ref b :: S) I F sh v I' F' sh' := by
  intro p e R s m args below meth c A H locs cells slots Q ro ga ls hY hX hZ hl hc hs hr
  have hM := Y_met (sz := H.size) (ro := ro) (ga := ga) ho.2.2.1 (As := .ref b :: As) (by rw [List.all_cons, hcat]; rfl) (by rw [List.length_cons]; omega) (show zRet N.2.2.2.1 none from hi.2.2) hN
  have hfit := zfit (J := J) hc hs hnew
  have hpre : PreS s H (zPcY Y D ro ga I F sh H.size (.ref b :: As)) (.ref (ro b) :: As.map (zv ro)) := ⟨zPcY_blind hYo, zPcY_at (As := .ref b :: As) hYo hY hX.2.2.2.2.2.2.2.2.1 hZ hX.2.2.2.2.2.1⟩
  have hstk : (As.reverse ++ .ref b :: S).map (zv ro) = (As.map (zv ro)).reverse ++ .ref (ro b) :: S.map (zv ro) := by
    rw [List.map_append, List.map_reverse]; rfl
  have hcode := ho.1
  have hRm : N.2.2.2.2.1 + 1 ≤ R.frames ∧ 8 + (N.2.2.1 + 11) + N.2.2.2.2.2.1 ≤ R.locals := ⟨Nat.le_trans hrm.1 hX.2.2.2.2.2.2.1, Nat.le_trans hrm.2 hX.2.2.2.2.2.2.2.1⟩
  have hw2 : zws N = Cond.code N.1 N.2.1 N.2.2.1 none :: zT := by rw [← hi.2.2]
  refine Y_after (u := none) (a := (Value.ref (ro b) :: As.map (zv ro)).toArray) hY hX hZ hl hc hs hr hnew ?_ kk
  rcases hm with hm | ⟨host, hm⟩
  · refine va_runI (n := n) (bytes := N.2.1) (maxL := N.2.2.1) (own := M.1.cls) (As := As.map (zv ro)) (rest := S.map (zv ro)) ⟨hX.1, hX.2.1, hX.2.2.1, hX.2.2.2.1, hX.2.2.2.2.1⟩ hM ⟨callB_of n hX.2.2.2.2.1 (z_goodIn hcode) hw2 rfl rfl (hX.w ho.2.1) (hX.w hm) ho.2.2.2 hRm, hi.2.1, hX.w hi.1⟩ hpre rfl (by rw [List.length_map]; exact hlen.1) hl.1 hstk (lv_room (zcat hst)) hd hfit
  · refine va_runIN (n := n) (bytes := N.2.1) (maxL := N.2.2.1) (own := M.1.cls) (host := host) (As := As.map (zv ro)) (rest := S.map (zv ro)) ⟨hX.1, hX.2.1, hX.2.2.1, hX.2.2.2.1, hX.2.2.2.2.1⟩ hM ⟨va_cnB n hX.2.2.2.2.1 (z_goodIn hcode) hw2 rfl rfl (hX.n hm) (hX.w ho.2.1) ho.2.2.2 hRm, hi.2.1, hX.w hi.1⟩ hpre rfl (by rw [List.length_map]; exact hlen.1) hl.1 hstk (lv_room (zcat hst)) hd hfit
theorem Y_callVo {N : ZM} {idx n b : Nat} {As : List Value} {J : AI} {G : AR} {th : AS} {u : Option Int32} (hYo : zYo Y) (hN : ZY Y l D N 0 (zent N.2.2.1 (.ref b :: As)) [] I F sh u J G th) (hd : decode M.2.1 pc = .ok (.invokevirtual idx, 3)) (ho : zOk N n) (hm : zMl M.1.cls idx N.1) (hi : Cond.instanceMethod N.1 ∈ zT ∧ Cond.selects N.1.cls N.1 N.1 ∈ zT) (hrm : zRm M N) (hret : zRet N.2.2.2.1 u) (hcat : (As.all fun a => a.category == 1) = true) (hlen : As.length = n ∧ n + 1 ≤ N.2.2.1) (hb : ∀ (s : State) (A : Nat → Prop) (H : Heap) (locs : List Loc) (ro : Nat → Nat), Y s A (fun i => ro (90000 + i)) → va_S A s.heap H locs → ∃ cell : Cell, H[ro b]? = some cell ∧ cell.vm.isStatics = false ∧ s.vm.findClass N.1.cls = some cell.cls) (hst : (S.map fun v => v.category).sum ≤ 8) (hnew : zNew L S sh th sh')
    (kk : ZY Y l D M (pc + 3) L (u.toList.map Value.int ++ S) J G th v I' F' sh') : ZY Y l D M pc L (As.reverse ++ .ref b :: S) I F sh v I' F' sh' := by
  intro p e R s m args below meth c A H locs cells slots Q ro ga ls hY hX hZ hl hc hs hr
  have hM := Y_met (sz := H.size) (ro := ro) (ga := ga) ho.2.2.1 (As := .ref b :: As) (by rw [List.all_cons, hcat]; rfl) (by rw [List.length_cons]; omega) hret hN
  have hrecv := hb s A H locs ro hY hZ.2.2.1
  have hfit := zfit (J := J) hc hs hnew
  have hpre : PreV s H N.1.cls (ro b) (zPcY Y D ro ga I F sh H.size (.ref b :: As)) (As.map (zv ro)) := ⟨zPcY_blind hYo, hrecv, zPcY_at hYo hY hX.2.2.2.2.2.2.2.2.1 hZ hX.2.2.2.2.2.1⟩
  have hstk : (As.reverse ++ .ref b :: S).map (zv ro) = (As.map (zv ro)).reverse ++ .ref (ro b) :: S.map (zv ro) := by
    rw [List.map_append, List.map_reverse]; rfl
  have hcode := ho.1
  have hRm : N.2.2.2.2.1 + 1 ≤ R.frames ∧ 8 + (N.2.2.1 + 11) + N.2.2.2.2.2.1 ≤ R.locals := ⟨Nat.le_trans hrm.1 hX.2.2.2.2.2.2.1, Nat.le_trans hrm.2 hX.2.2.2.2.2.2.2.1⟩
  refine Y_after (a := (Value.ref (ro b) :: As.map (zv ro)).toArray) hY hX hZ hl hc hs hr hnew ?_ kk
  rcases hm with hm | ⟨host, hm⟩
  · refine va_runV (n := n) (bytes := N.2.1) (maxL := N.2.2.1) (ret := N.2.2.2.1) (C := N.1.cls) (own := M.1.cls) (As := As.map (zv ro)) (rest := S.map (zv ro)) ⟨hX.1, hX.2.1, hX.2.2.1, hX.2.2.2.1, hX.2.2.2.2.1⟩ hM ⟨callB_of n hX.2.2.2.2.1 (z_goodIn hcode) rfl rfl rfl (hX.w ho.2.1) (hX.w hm) ho.2.2.2 hRm, hX.w hi.1, hX.w hi.2⟩ hpre rfl (by rw [List.length_map]; exact hlen.1) hl.1 hstk (lv_room (zcat hst)) hd hfit
  · refine va_runVN (n := n) (bytes := N.2.1) (maxL := N.2.2.1) (ret := N.2.2.2.1) (C := N.1.cls) (own := M.1.cls) (host := host) (As := As.map (zv ro)) (rest := S.map (zv ro)) ⟨hX.1, hX.2.1, hX.2.2.1, hX.2.2.2.1, hX.2.2.2.2.1⟩ hM ⟨va_cnB n hX.2.2.2.2.1 (z_goodIn hcode) rfl rfl rfl (hX.n hm) (hX.w ho.2.1) ho.2.2.2 hRm, hX.w hi.1, hX.w hi.2⟩ hpre rfl (by rw [List.length_map]; exact hlen.1) hl.1 hstk (lv_room (zcat hst)) hd hfit
/-! cells that are made -/
def zgr {α : Type} (n len : Nat) (q f : Nat → α) : Nat → α := fun a => if n ≤ a ∧ a < n + len then q (a - n) else f a
theorem zgr_lo {α : Type} {n len a : Nat} {q f : Nat → α} (h : a < n) : zgr n len q f a = f a := if_neg (by omega)
theorem zgr_hi {α : Type} {n len a : Nat} {q f : Nat → α} (h : n + len ≤ a) : zgr n len q f a = f a := if_neg (by omega)
theorem zgr_at {α : Type} {n len i : Nat} {q f : Nat → α} (h : i < len) : zgr n len q f (n + i) = q i := by
  unfold zgr
  rw [if_pos (by omega), Nat.add_sub_cancel_left]
def zNW (ro : Nat → Nat) (ga : Nat → ClassId) (I : AI) (F2 : AR) (n : Nat) (xs : AS) (q : Nat → Nat) (g : Nat → ClassId) : va_W := (List.range xs.length).map (fun i => (q i, zc (zgr n xs.length q ro) (zgr n xs.length g ga) I F2 (xs.getD i (0, 0)) (n + i)))
theorem zc_grow {ro : Nat → Nat} {ga : Nat → ClassId} {F2 : AR} {n len : Nat} {q : Nat → Nat} {g : Nat → ClassId} {x : Nat × Nat} {a : Nat} (ha : a < n) (hF2 : ∀ a, a < n → F2 a = F a) (hFw : zFw F n) : zc (zgr n len q ro) (zgr n len g ga) I F2 x a = zc ro ga I F x a := by
  have e : ∀ k, (F2 a k).map (zgr n len q ro) = (F a k).map ro := by
    intro k
    rw [hF2 a ha]
    cases h : F a k with
    | none => rfl
    | some b => exact congrArg some (zgr_lo (hFw a k b h))
  unfold zc zfs
  rw [show zgr n len g ga a = ga a from zgr_lo ha]
  simp only [e]
theorem zw_grow {ro : Nat → Nat} {ga : Nat → ClassId} {F2 : AR} {xs : AS} {q : Nat → Nat} {g : Nat → ClassId} (hF2 : ∀ a, a < sh.length → F2 a = F a) (hFw : zFw F sh.length) : zw (zgr sh.length xs.length q ro) (zgr sh.length xs.length g ga) I F2 (sh ++ xs) = zw ro ga I F sh ++ zNW ro ga I F2 sh.length xs q g := by
  apply List.ext_getElem?
  intro a
  by_cases h1 : a < sh.length
  · have e1 : (sh ++ xs)[a]? = some sh[a] := by rw [List.getElem?_append_left h1]; exact List.getElem?_eq_getElem h1
    rw [zw_get e1, List.getElem?_append_left (by rw [zw_len]; exact h1), zw_get (List.getElem?_eq_getElem h1), zgr_lo h1, zc_grow h1 hF2 hFw]
  · by_cases h2 : a < sh.length + xs.length
    · obtain ⟨i, rfl⟩ : ∃ i, a = sh.length + i := ⟨a - sh.length, by omega⟩
      have hi : i < xs.length := by omega
      have e1 : (sh ++ xs)[sh.length + i]? = some xs[i] := by rw [List.getElem?_append_right (by omega), Nat.add_sub_cancel_left]; exact List.getElem?_eq_getElem hi
      rw [zw_get e1, List.getElem?_append_right (by rw [zw_len]; omega), zw_len, Nat.add_sub_cancel_left]
      unfold zNW
      rw [List.getElem?_map, List.getElem?_range hi, zgr_at hi]
      simp only [Option.map_some, List.getD_eq_getElem?_getD, List.getElem?_eq_getElem hi, Option.getD_some]
    · rw [List.getElem?_eq_none (by rw [zw_len, List.length_append]; omega), List.getElem?_eq_none (by rw [List.length_append, zw_len]; unfold zNW; rw [List.length_map, List.length_range]; omega)]
theorem zsl_app (a b : AS) : zsl (a ++ b) = zsl a + zsl b := by unfold zsl; rw [List.map_append, List.sum_append]
theorem Y_grow (xs : AS) {S1 : List Value} {F2 : AR} {pc2 : Nat} (h90 : sh.length + xs.length ≤ 90000) (hpos : 0 < xs.length) (hroom : sh.length + xs.length ≤ sh'.length ∧ zsl sh + zsl xs ≤ zsl sh') (hS : ∀ b, Value.ref b ∈ S → b < sh.length ∨ 90000 ≤ b) (hL : ∀ b, some (Value.ref b) ∈ L → b < sh.length ∨ 90000 ≤ b) (hF2 : ∀ a, a < sh.length → F2 a = F a) (hFw2 : zFw F sh.length → zFw F2 (sh.length + xs.length))
    (step : ∀ (p : Program) (e : Env) (R : Room) (s : State) (m : MethodId) (args : Array Value) (below : List Frame) (meth : Method) (c : Code) (A : Nat → Prop) (H : Heap) (locs : List Loc) (cells slots : Nat) (Q : State → Prop) (ro : Nat → Nat) (ga : Nat → ClassId) (ls : Array Slot),
      ZX D M p R s m args meth c A → ZS D s A ro ga I F sh H locs → cells + xs.length ≤ R.cells → slots + zsl xs ≤ R.slots →
      (∀ (q : Nat → Nat) (g : Nat → ClassId) (H1 : Heap) (locs1 : List Loc), va_P D vwCl (zw ro ga I F sh ++ zNW ro ga I F2 sh.length xs q g) H1 → va_D A (zw ro ga I F sh ++ zNW ro ga I F2 sh.length xs q g) → va_S A s.heap H1 locs1 → (∀ (i : Nat) (x : Nat × Nat), xs[i]? = some x → 13 ≤ x.1 → va_K D vwCl [(g i, zKt x.1)] s) →
        W p l e R s m args below meth c H1 locs1 (cells + xs.length) (slots + zsl xs) Q (F0 m pc2 ls (.ref (q 0) :: S.map (zv ro)))) →
      W p l e R s m args below meth c H locs cells slots Q (F0 m pc ls (S1.map (zv ro))))
    (kk : ZY Y l D M pc2 L (.ref sh.length :: S) I F2 (sh ++ xs) v I' F' sh') : ZY Y l D M pc L S1 I F sh v I' F' sh' := by
  intro p e R s m args below meth c A H locs cells slots Q ro ga ls hY hX hZ hl hc hs hr
  refine step p e R s m args below meth c A H locs cells slots Q ro ga ls hX hZ (by omega) (by omega) (fun q g H1 locs1 hP hD hS1 hK => ?_)
  have e1 := zw_grow (ro := ro) (ga := ga) (I := I) (xs := xs) (q := q) (g := g) hF2 hZ.2.2.2.2
  rw [← e1] at hP hD
  have hlen : (sh ++ xs).length = sh.length + xs.length := List.length_append
  have hzs := zsl_app sh xs
  have hag : ∀ a, (a < sh.length ∨ 90000 ≤ a) → zgr sh.length xs.length q ro a = ro a := by
    intro a ha
    rcases ha with ha | ha
    · exact zgr_lo ha
    · exact zgr_hi (by omega)
  have hKs : zKs D (zgr sh.length xs.length g ga) (sh ++ xs) s := by
    refine ⟨hZ.2.2.2.1.1, fun a x hx hk => ?_⟩
    by_cases h1 : a < sh.length
    · rw [List.getElem?_append_left h1] at hx
      rw [show zgr sh.length xs.length g ga a = ga a from zgr_lo h1]
      exact hZ.2.2.2.1.2 a x hx hk
    · rw [List.getElem?_append_right (by omega)] at hx
      have hi : a - sh.length < xs.length := (List.getElem?_eq_some_iff.mp hx).1
      have e2 : zgr sh.length xs.length g ga a = g (a - sh.length) := by
        have := zgr_at (n := sh.length) (q := g) (f := ga) hi
        rw [show sh.length + (a - sh.length) = a by omega] at this
        exact this
      rw [e2]
      exact hK _ x hx hk
  have hl1 : zh (zgr sh.length xs.length q ro) ls M.2.2.1 L := by
    refine ⟨hl.1, hl.2.1, fun i x hi => ?_⟩
    rw [hl.2.2 i x hi]
    cases x with
    | ref b => show some (Slot.val (.ref (ro b))) = some (Slot.val (.ref (zgr sh.length xs.length q ro b))); rw [hag b (hL b (List.mem_of_getElem? hi))]
    | _ => rfl
  have hSS : S.map (zv (zgr sh.length xs.length q ro)) = S.map (zv ro) := by
    refine List.map_congr_left fun x hx => ?_
    cases x with
    | ref b => show Value.ref (zgr sh.length xs.length q ro b) = Value.ref (ro b); rw [hag b (hS b hx)]
    | _ => rfl
  have hq0 : zgr sh.length xs.length q ro sh.length = q 0 := zgr_at (i := 0) hpos
  have K := kk p e R s m args below meth c A H1 locs1 (cells + xs.length) (slots + zsl xs) Q (zgr sh.length xs.length q ro) (zgr sh.length xs.length g ga) ls (by rw [show (fun i => zgr sh.length xs.length q ro (90000 + i)) = (fun i => ro (90000 + i)) from funext fun i => hag _ (Or.inr (Nat.le_add_right _ _))]; exact hY) hX ⟨hP, hD, hS1, hKs, by rw [hlen]; exact hFw2 hZ.2.2.2.2⟩ hl1 (by rw [hlen]; omega) (by rw [hzs]; omega) (by
    intro H2 locs2 ro2 ga2 pc9 ls2 hZ2 hag2 hd2
    have h9 := hr H2 locs2 ro2 ga2 pc9 ls2 hZ2 ⟨fun b hb => (hag2.1 b (by rw [hlen]; omega)).trans (hag b hb), fun hsh => by subst hsh; omega⟩ hd2
    rw [show cells + xs.length + (sh'.length - (sh ++ xs).length) = cells + (sh'.length - sh.length) by rw [hlen]; omega, show slots + zsl xs + (zsl sh' - zsl (sh ++ xs)) = slots + (zsl sh' - zsl sh) by rw [hzs]; omega]
    exact h9)
  have e9 : (Value.ref sh.length :: S).map (zv (zgr sh.length xs.length q ro)) = .ref (q 0) :: S.map (zv ro) := by
    rw [List.map_cons, hSS]
    show Value.ref (zgr sh.length xs.length q ro sh.length) :: _ = _
    rw [hq0]
  rw [e9] at K
  exact K
theorem zdef {c : Nat} (h : c < 13) : ∀ k, k < zNf c → defaultValue (zTy c k) = if (zTy c k).isReference = true then Value.null else .int 0 := z13 (P := fun c => ∀ k, k < zNf c → defaultValue (zTy c k) = if (zTy c k).isReference = true then Value.null else .int 0) h (by decide) (by decide) (by decide) (by decide) (by decide) (by decide) (by decide) (by decide) (by decide) (by decide) (by decide) (by decide) (by decide)
theorem zFw_up (xs : AS) (h : zFw F sh.length) : zFw F (sh.length + xs.length) := fun a k b hb => Nat.lt_of_lt_of_le (h a k b hb) (Nat.le_add_right _ _)
/-- new -/
theorem Y_new {idx : Nat} (c0 : Nat) (hd : decode M.2.1 pc = .ok (.new idx, 3)) (hc0 : c0 < 13) (hcl : Cond.classLink M.1.cls idx (zRn c0) ∈ zT) (hinst : Cond.instantiable (zRn c0) (zNf c0) ∈ zT) (hini : Cond.initialized (zRn c0) ∈ zT) (hI : ∀ k, I sh.length k = 0) (hF : ∀ k, F sh.length k = none) (h90 : sh.length < 90000) (hroom : sh.length + 1 ≤ sh'.length ∧ zsl sh + zNf c0 ≤ zsl sh') (hS : ∀ b, Value.ref b ∈ S → b < sh.length ∨ 90000 ≤ b) (hL : ∀ b, some (Value.ref b) ∈ L → b < sh.length ∨ 90000 ≤ b)
    (kk : ZY Y l D M (pc + 3) L (.ref sh.length :: S) I F (sh ++ [(c0, zNf c0)]) v I' F' sh') : ZY Y l D M pc L S I F sh v I' F' sh' := by
  refine Y_grow [(c0, zNf c0)] (pc2 := pc + 3) (F2 := F) (by show sh.length + 1 ≤ _; omega) (Nat.zero_lt_succ _) (by show sh.length + 1 ≤ _ ∧ zsl sh + (zNf c0 + 0) ≤ _; exact hroom) hS hL (fun _ _ => rfl) (zFw_up _) ?_ kk
  intro p e R s m args below meth c A H locs cells slots Q ro ga ls hX hZ hcc hss k9
  have hz : zsl [(c0, zNf c0)] = zNf c0 := rfl
  refine va_new (ci := c0) (C := zRn c0) (T := zTb c0) (N := zNf c0) (fs := zfs ro I F c0 (zNf c0) sh.length) hX.1 hX.2.1 hX.2.2.2.2.1 (fun w hw => List.mem_cons_of_mem _ (z_u hc0 w hw)) (zTy c0) (z_ty hc0) hX.2.2.2.1 (hX.w hcl) (hX.w hinst) (hX.w hini) hZ.2.2.2.1.1 hZ.1 hZ.2.1 hZ.2.2.1 hX.2.2.2.2.2.2.2.2.1 (z_cl hc0) (fun j hj => ?_) hcc hss hd (fun q H1 p1 d1 s1 => ?_)
  · rw [zdef hc0 j hj]
    unfold vp_V
    rw [List.getD_eq_getElem?_getD, zfs_get hj, hI j, hF j]
    rfl
  · have e : zNW ro ga I F sh.length [(c0, zNf c0)] (fun _ => q) ga = [(q, .inr (c0, zfs ro I F c0 (zNf c0) sh.length))] := by
      show [(q, zc (zgr sh.length 1 (fun _ => q) ro) (zgr sh.length 1 ga ga) I F (c0, zNf c0) sh.length)] = _
      rw [zc_o hc0]
      unfold zfs
      simp only [hF, Option.map_none]
    have K := k9 (fun _ => q) ga H1 locs (by rw [e]; exact p1) (by rw [e]; exact d1) s1 (fun i x hx hk => by
      have hz0 : i < 1 := (List.getElem?_eq_some_iff.mp hx).1
      rw [show i = 0 by omega] at hx
      cases hx
      exact absurd hk (by show ¬ 13 ≤ c0; omega))
    exact K
/-- newarray -/
theorem Y_newa {at9 : ArrayType} {n : Int32} (k0 N : Nat) (hd : decode M.2.1 pc = .ok (.newarray at9, 2)) (hk0 : (decide (13 ≤ k0) && decide (k0 < 17)) = true) (hty : newarray.typeOf at9 = zKt k0) (hdf : defaultValue (zKt k0) = .int 0) (har : Cond.arrayClass (newarray.typeOf at9) ∈ zT) (hn : n = nI N) (hN : N ≤ 1000) (hby : N * componentBytes (zKt k0) ≤ 536870912) (hI : ∀ k, I sh.length k = 0) (h90 : sh.length < 90000) (hroom : sh.length + 1 ≤ sh'.length ∧ zsl sh + N ≤ zsl sh') (hS : ∀ b, Value.ref b ∈ S → b < sh.length ∨ 90000 ≤ b) (hL : ∀ b, some (Value.ref b) ∈ L → b < sh.length ∨ 90000 ≤ b)
    (kk : ZY Y l D M (pc + 2) L (.ref sh.length :: S) I F (sh ++ [(k0, N)]) v I' F' sh') : ZY Y l D M pc L (.int n :: S) I F sh v I' F' sh' := by
  simp only [Bool.and_eq_true, decide_eq_true_eq] at hk0
  refine Y_grow [(k0, N)] (pc2 := pc + 2) (F2 := F) (by show sh.length + 1 ≤ _; omega) (Nat.zero_lt_succ _) (by show sh.length + 1 ≤ _ ∧ zsl sh + (N + 0) ≤ _; exact hroom) hS hL (fun _ _ => rfl) (zFw_up _) ?_ kk
  intro p e R s m args below meth c A H locs cells slots Q ro ga ls hX hZ hcc hss k9
  subst hn
  refine va_newa (a0 := (N, .inl (fun _ => 0))) hX.1 hX.2.1 (hX.w har) hty hZ.2.2.2.1.1 hZ.1 hZ.2.1 hZ.2.2.1 hX.2.2.2.2.2.2.2.2.1 (fun cA => by rw [hdf]; rfl) (nI_pos (by omega)) (nI_clamp (by omega)) hby hcc hss hd (fun q cA H1 k1 p1 d1 s1 => ?_)
  have e : zNW ro ga I F sh.length [(k0, N)] (fun _ => q) (fun _ => cA) = [(q, .inl (cA, N, .inl (fun _ => 0)))] := by
    show [(q, zc (zgr sh.length 1 (fun _ => q) ro) (zgr sh.length 1 (fun _ => cA) ga) I F (k0, N) sh.length)] = _
    rw [zc_i (by omega) hk0.2, show zgr sh.length 1 (fun _ => cA) ga sh.length = cA from zgr_at (i := 0) (by decide), show I sh.length = (fun _ => 0) from funext hI]
  exact k9 (fun _ => q) (fun _ => cA) H1 locs (by rw [e]; exact p1) (by rw [e]; exact d1) s1 (fun i x hx hk => by
    have hz0 : i < 1 := (List.getElem?_eq_some_iff.mp hx).1
    rw [show i = 0 by omega] at hx
    cases hx
    exact k1)
/-- a row of references -/
theorem Y_anew {idx : Nat} {n : Int32} (N : Nat) (hd : decode M.2.1 pc = .ok (.anewarray idx, 3)) (hcl : Cond.classLink M.1.cls idx "LostAndTaxed$Signs" ∈ zT) (hov : Cond.arrayOver (.object "LostAndTaxed$Signs") ∈ zNl) (hn : n = nI N) (hN : N ≤ 1000) (hF : ∀ k, F sh.length k = none) (h90 : sh.length < 90000) (hroom : sh.length + 1 ≤ sh'.length ∧ zsl sh + N ≤ zsl sh') (hS : ∀ b, Value.ref b ∈ S → b < sh.length ∨ 90000 ≤ b) (hL : ∀ b, some (Value.ref b) ∈ L → b < sh.length ∨ 90000 ≤ b)
    (kk : ZY Y l D M (pc + 3) L (.ref sh.length :: S) I F (sh ++ [(17, N)]) v I' F' sh') : ZY Y l D M pc L (.int n :: S) I F sh v I' F' sh' := by
  refine Y_grow [(17, N)] (pc2 := pc + 3) (F2 := F) (by show sh.length + 1 ≤ _; omega) (Nat.zero_lt_succ _) (by show sh.length + 1 ≤ _ ∧ zsl sh + (N + 0) ≤ _; exact hroom) hS hL (fun _ _ => rfl) (zFw_up _) ?_ kk
  intro p e R s m args below meth c A H locs cells slots Q ro ga ls hX hZ hcc hss k9
  subst hn
  refine va_newq (C := "LostAndTaxed$Signs") hX.1 hX.2.1 hX.2.2.2.1 (hX.w hcl) (hX.n hov) hZ.2.2.2.1.1 hZ.1 hZ.2.1 hZ.2.2.1 hX.2.2.2.2.2.2.2.2.1 (nI_pos (by omega)) (nI_clamp (by omega)) (by omega) hcc hss hd (fun q cA H1 k1 p1 d1 s1 => ?_)
  have e : zNW ro ga I F sh.length [(17, N)] (fun _ => q) (fun _ => cA) = [(q, .inl (cA, N, .inr (.inr (.inr (.inr (fun _ => none))))))] := by
    show [(q, zc (zgr sh.length 1 (fun _ => q) ro) (zgr sh.length 1 (fun _ => cA) ga) I F (17, N) sh.length)] = _
    rw [zc_r (by decide), show zgr sh.length 1 (fun _ => cA) ga sh.length = cA from zgr_at (i := 0) (by decide)]
    simp only [hF, Option.map_none]
  exact k9 (fun _ => q) (fun _ => cA) H1 locs (by rw [e]; exact p1) (by rw [e]; exact d1) s1 (fun i x hx hk => by
    have hz0 : i < 1 := (List.getElem?_eq_some_iff.mp hx).1
    rw [show i = 0 by omega] at hx
    cases hx
    exact k1)
/-- Object's own constructor -/
theorem Y_obj {idx b : Nat} (hd : decode M.2.1 pc = .ok (.invokespecial idx, 3)) (hli : Cond.methodLink M.1.cls idx objectInit ∈ zT) (hf : 1 ≤ M.2.2.2.2.1) (hlo : (S.map fun v => v.category).sum + 12 ≤ M.2.2.2.2.2.1) (kk : ZY Y l D M (pc + 3) L S I F sh v I' F' sh') : ZY Y l D M pc L (.ref b :: S) I F sh v I' F' sh' := by
  intro p e R s m args below meth c A H locs cells slots Q ro ga ls hY hX hZ hl hc hs hr
  have hcat : ((S.map (zv ro)).map fun v => v.category).sum = (S.map fun v => v.category).sum := by
    rw [List.map_map]
    congr 1
    exact List.map_congr_left (fun a _ => zv_cat ro a)
  exact W.objInit (g := F0 m pc ls (.ref (ro b) :: S.map (zv ro))) hX.1 hX.2.1 hX.2.2.2.1 (hX.w hli) (hX.w oi_in) (hX.w oi_code) rfl (by show ls.size = _; rw [hl.1]; exact hX.2.2.1.symm) rfl hd (Nat.le_trans hf hX.2.2.2.2.2.2.1) (by show 2 * 0 + _ + 12 ≤ _; rw [hcat]; have := hX.2.2.2.2.2.2.2.1; omega) (kk p e R s m args below meth c A H locs cells slots Q ro ga ls hY hX hZ hl hc hs hr)
/-- a row of references written: a cell of the class of signs -/
theorem Y_aast {a b n kn : Nat} {i : Int32} (j : Nat) (hd : decode M.2.1 pc = .ok (.aastore, 1)) (hs0 : sh[a]? = some (17, n)) (hb : sh[b]? = some (5, kn)) (hi : i = nI j) (hj : j < n) (hn : n < 2 ^ 31) (kk : ZY Y l D M (pc + 1) L S I (zuR F a j (some b)) sh v I' F' sh') : ZY Y l D M pc L (.ref b :: .int i :: .ref a :: S) I F sh v I' F' sh' := by
  intro p e R s m args below meth c A H locs cells slots Q ro ga ls hY hX hZ hl hc hs hr
  obtain ⟨e1, e2⟩ := zarq hZ hs0 (by decide)
  have he := zw_get (ro := ro) (ga := ga) (I := I) (F := F) hb
  rw [zc_o (by decide)] at he
  obtain ⟨h1, h2⟩ := z_in hi hj hn
  have hbl : b < sh.length := (List.getElem?_eq_some_iff.mp hb).1
  refine va_astq (r := (zRn 5, zTb 5, zNf 5)) hX.1 hX.2.1 e2 hZ.1 hZ.2.1 hZ.2.2.1 a 0 b 5 e1 rfl he (z_cl (by decide)) h1 hd (fun H1 locs1 p1 d1 s1 => ?_)
  have hset : (zw ro ga I F sh).set a (ro a, .inl (ga a, n, .inr (.inr (.inr (.inr (va_up (fun j => (F a j).map ro) i.toNatClampNeg (some (ro b)))))))) = zw ro ga I (zuR F a j (some b)) sh := by
    have h3 := zw_set (ro := ro) (ga := ga) (I := I) (J := I) (F := F) (G := zuR F a j (some b)) hs0 zc_F
    rw [zc_r (by decide)] at h3
    have hf : va_up (fun j => (F a j).map ro) j (some (ro b)) = fun x => (zuR F a j (some b) a x).map ro := by
      funext x
      unfold zuR va_up
      rw [if_pos rfl]
      by_cases hx : x = j
      · rw [if_pos hx, if_pos hx]; rfl
      · rw [if_neg hx, if_neg hx]
    rw [← h3, h2, hf]
  rw [hset] at p1 d1
  have hw : zFw (zuR F a j (some b)) sh.length := by
    intro x y z hz
    unfold zuR va_up at hz
    by_cases e1 : x = a
    · rw [if_pos e1] at hz
      by_cases e2 : y = j
      · rw [if_pos e2] at hz
        cases hz
        exact hbl
      · rw [if_neg e2] at hz
        exact hZ.2.2.2.2 _ _ _ hz
    · rw [if_neg e1] at hz
      exact hZ.2.2.2.2 _ _ _ hz
  exact kk p e R s m args below meth c A H1 locs1 cells slots Q ro ga ls hY hX ⟨p1, d1, s1, hZ.2.2.2.1, hw⟩ hl hc hs hr
end YRows
