/-! THE JUDGEMENT: from this place of method M, with these locals, this stack and this memory, M returns v and leaves that memory. -/
def zNest (w : Cond) : Bool := match w with
  | .fieldLinkNest _ _ _ _ _ _ => true
  | .methodLinkNest _ _ _ _ => true
  | .arrayOver _ => true
  | _ => false
def zNl : List Cond := lw_tbl.filter zNest
def zNs (U : State) : Prop := ∀ w ∈ zNl, va_Nw w U
theorem zNs.warm {s U : State} (hW : s.WarmedH U.vm) (h : zNs s) : zNs U := by
  intro w hw
  have h0 := h w hw
  have h1 := (List.mem_filter.mp hw).2
  cases w with
  | fieldLinkNest a b c d e f => exact va_Nw.warmF hW h0
  | methodLinkNest a b c d => exact va_Nw.warmM hW h0
  | arrayOver t =>
    have e : (Cond.arrayOver t).before #[] (s.setVm U.vm) = (Cond.arrayOver t).before #[] U := rfl
    show (Cond.arrayOver t).before #[] U = true
    rw [← e, Cond.arrayOver_setVmC hW.alike]
    exact h0
  | _ => simp [zNest] at h1
theorem zNs.same {u U : State} (h : u.vm = U.vm) (hz : zNs u) : zNs U := by
  intro w hw
  have h0 := hz w hw
  have h1 := (List.mem_filter.mp hw).2
  cases w with
  | fieldLinkNest a b c d e f => exact va_Nw.same rfl h h0
  | methodLinkNest a b c d => exact va_Nw.same rfl h h0
  | arrayOver t =>
    have e : (Cond.arrayOver t).before #[] (u.setVm U.vm) = (Cond.arrayOver t).before #[] U := rfl
    show (Cond.arrayOver t).before #[] U = true
    rw [← e, Cond.arrayOver_setVmC (h ▸ Vm.Alike.refl u.vm)]
    exact h0
  | _ => simp [zNest] at h1
theorem zNl_in {w : Cond} (i : Nat) (h : lw_tbl[i]? = some w) (hg : zNest w = true) : w ∈ zNl := List.mem_filter.mpr ⟨List.mem_of_getElem? h, hg⟩
def zKs (D : va_G) (ga : Nat → ClassId) (sh : AS) (s : State) : Prop := va_K D vwCl [] s ∧ ∀ (a : Nat) (q : Nat × Nat), sh[a]? = some q → 13 ≤ q.1 → va_K D vwCl [(ga a, zKt q.1)] s
theorem zKs.moved {D : va_G} {ga : Nat → ClassId} {sh : AS} {u U : State} (hvm : u.vm.Alike U.vm) (h : zKs D ga sh u) : zKs D ga sh U := ⟨va_K.moved hvm h.1, fun a q hq hk => va_K.moved hvm (h.2 a q hq hk)⟩
def zFw (F : AR) (n : Nat) : Prop := ∀ a k b, F a k = some b → b < n
/-- slots of all cells -/
def zsl (sh : AS) : Nat := (sh.map (fun q => q.2)).sum
/-- what stays through a method's body -/
def ZX (D : va_G) (M : ZM) (p : Program) (R : Room) (s : State) (m : MethodId) (args : Array Value) (meth : Method) (c : Code) (A : Nat → Prop) : Prop :=
  p.tables.exec = Jvm.exec ∧ c.code = M.2.1 ∧ c.maxLocals = M.2.2.1 ∧ s.vm.findClass M.1.cls = some m.cls ∧ (∀ w ∈ zws M, w.before args s = true) ∧ zNs s ∧ M.2.2.2.2.1 ≤ R.frames ∧ M.2.2.2.2.2.1 ≤ R.locals ∧ (∀ q, s.heap.size ≤ q → A q) ∧ (M.1.name = "<init>" → meth.name = "<init>")
/-- the memory as the heap holds it -/
def ZS (D : va_G) (s : State) (A : Nat → Prop) (ro : Nat → Nat) (ga : Nat → ClassId) (I : AI) (F : AR) (sh : AS) (H : Heap) (locs : List Loc) : Prop :=
  va_P D vwCl (zw ro ga I F sh) H ∧ va_D A (zw ro ga I F sh) ∧ va_S A s.heap H locs ∧ zKs D ga sh s ∧ zFw F sh.length
def zAg (ro ro' : Nat → Nat) (ga ga' : Nat → ClassId) (sh sh' : AS) : Prop := (∀ a, (a < sh.length ∨ 90000 ≤ a) → ro' a = ro a) ∧ (sh' = sh → ro' = ro ∧ ga' = ga)
def zop (v : Option Int32) : Instr := if v.isSome then .ireturn else .return_
def ZE (l : Launch) (D : va_G) (M : ZM) (sh : AS) (v : Option Int32) (I' : AI) (F' : AR) (sh' : AS) (p : Program) (e : Env) (R : Room) (s : State) (m : MethodId) (args : Array Value) (below : List Frame) (meth : Method) (c : Code) (A : Nat → Prop) (cells slots : Nat) (Q : State → Prop) (ro : Nat → Nat) (ga : Nat → ClassId) : Prop :=
  ∀ (H' : Heap) (locs' : List Loc) (ro' : Nat → Nat) (ga' : Nat → ClassId) (pc' : Nat) (ls' : Array Slot), ZS D s A ro' ga' I' F' sh' H' locs' → zAg ro ro' ga ga' sh sh' → decode M.2.1 pc' = .ok (zop v, 1) → W p l e R s m args below meth c H' locs' (cells + (sh'.length - sh.length)) (slots + (zsl sh' - zsl sh)) Q (F0 m pc' ls' (v.toList.map Value.int))
def ZR (l : Launch) (D : va_G) (M : ZM) (pc : Nat) (L : List (Option Value)) (S : List Value) (I : AI) (F : AR) (sh : AS) (v : Option Int32) (I' : AI) (F' : AR) (sh' : AS) : Prop :=
  ∀ (p : Program) (e : Env) (R : Room) (s : State) (m : MethodId) (args : Array Value) (below : List Frame) (meth : Method) (c : Code) (A : Nat → Prop) (H : Heap) (locs : List Loc) (cells slots : Nat) (Q : State → Prop) (ro : Nat → Nat) (ga : Nat → ClassId) (ls : Array Slot),
    ZX D M p R s m args meth c A → ZS D s A ro ga I F sh H locs → zh ro ls M.2.2.1 L → cells + (sh'.length - sh.length) ≤ R.cells → slots + (zsl sh' - zsl sh) ≤ R.slots →
    ZE l D M sh v I' F' sh' p e R s m args below meth c A cells slots Q ro ga →
    W p l e R s m args below meth c H locs cells slots Q (F0 m pc ls (S.map (zv ro)))
section ZRows
variable {l : Launch} {D : va_G} {M : ZM} {pc : Nat} {L : List (Option Value)} {S : List Value} {I : AI} {F : AR} {sh : AS} {v : Option Int32} {I' : AI} {F' : AR} {sh' : AS}
theorem R_iadd {x y : Int32} (hd : decode M.2.1 pc = .ok (.iadd, 1))  (k : ZR l D M (pc + 1) L (.int (x + y) :: S) I F sh v I' F' sh') : ZR l D M (pc) L (.int y :: .int x :: S) I F sh v I' F' sh' := by
  intro p e R s m args below meth c A H locs cells slots Q ro ga ls hX hZ hl hc hs hr
  exact lv_iadd hX.1 hX.2.1 hd  (k p e R s m args below meth c A H locs cells slots Q ro ga ls hX hZ hl hc hs hr)
theorem R_isub {x y : Int32} (hd : decode M.2.1 pc = .ok (.isub, 1))  (k : ZR l D M (pc + 1) L (.int (x - y) :: S) I F sh v I' F' sh') : ZR l D M (pc) L (.int y :: .int x :: S) I F sh v I' F' sh' := by
  intro p e R s m args below meth c A H locs cells slots Q ro ga ls hX hZ hl hc hs hr
  exact lv_isub hX.1 hX.2.1 hd  (k p e R s m args below meth c A H locs cells slots Q ro ga ls hX hZ hl hc hs hr)
theorem R_imul {x y : Int32} (hd : decode M.2.1 pc = .ok (.imul, 1))  (k : ZR l D M (pc + 1) L (.int (x * y) :: S) I F sh v I' F' sh') : ZR l D M (pc) L (.int y :: .int x :: S) I F sh v I' F' sh' := by
  intro p e R s m args below meth c A H locs cells slots Q ro ga ls hX hZ hl hc hs hr
  exact lv_imul hX.1 hX.2.1 hd  (k p e R s m args below meth c A H locs cells slots Q ro ga ls hX hZ hl hc hs hr)
theorem R_iand {x y : Int32} (hd : decode M.2.1 pc = .ok (.iand, 1))  (k : ZR l D M (pc + 1) L (.int (x &&& y) :: S) I F sh v I' F' sh') : ZR l D M (pc) L (.int y :: .int x :: S) I F sh v I' F' sh' := by
  intro p e R s m args below meth c A H locs cells slots Q ro ga ls hX hZ hl hc hs hr
  exact lv_iand hX.1 hX.2.1 hd  (k p e R s m args below meth c A H locs cells slots Q ro ga ls hX hZ hl hc hs hr)
theorem R_ior {x y : Int32} (hd : decode M.2.1 pc = .ok (.ior, 1))  (k : ZR l D M (pc + 1) L (.int (x ||| y) :: S) I F sh v I' F' sh') : ZR l D M (pc) L (.int y :: .int x :: S) I F sh v I' F' sh' := by
  intro p e R s m args below meth c A H locs cells slots Q ro ga ls hX hZ hl hc hs hr
  exact lv_ior hX.1 hX.2.1 hd  (k p e R s m args below meth c A H locs cells slots Q ro ga ls hX hZ hl hc hs hr)
theorem R_ishl {x y : Int32} (hd : decode M.2.1 pc = .ok (.ishl, 1))  (k : ZR l D M (pc + 1) L (.int (x <<< (y &&& 31)) :: S) I F sh v I' F' sh') : ZR l D M (pc) L (.int y :: .int x :: S) I F sh v I' F' sh' := by
  intro p e R s m args below meth c A H locs cells slots Q ro ga ls hX hZ hl hc hs hr
  exact lv_ishl hX.1 hX.2.1 hd  (k p e R s m args below meth c A H locs cells slots Q ro ga ls hX hZ hl hc hs hr)
theorem R_ishr {x y : Int32} (hd : decode M.2.1 pc = .ok (.ishr, 1))  (k : ZR l D M (pc + 1) L (.int (x >>> (y &&& 31)) :: S) I F sh v I' F' sh') : ZR l D M (pc) L (.int y :: .int x :: S) I F sh v I' F' sh' := by
  intro p e R s m args below meth c A H locs cells slots Q ro ga ls hX hZ hl hc hs hr
  exact lv_ishr hX.1 hX.2.1 hd  (k p e R s m args below meth c A H locs cells slots Q ro ga ls hX hZ hl hc hs hr)
theorem R_idiv {x y : Int32} (hd : decode M.2.1 pc = .ok (.idiv, 1)) (hne : ¬ y = 0) (k : ZR l D M (pc + 1) L (.int (x / y) :: S) I F sh v I' F' sh') : ZR l D M (pc) L (.int y :: .int x :: S) I F sh v I' F' sh' := by
  intro p e R s m args below meth c A H locs cells slots Q ro ga ls hX hZ hl hc hs hr
  exact lv_idiv hX.1 hX.2.1 hd hne (k p e R s m args below meth c A H locs cells slots Q ro ga ls hX hZ hl hc hs hr)
theorem R_irem {x y : Int32} (hd : decode M.2.1 pc = .ok (.irem, 1)) (hne : ¬ y = 0) (k : ZR l D M (pc + 1) L (.int (x - x / y * y) :: S) I F sh v I' F' sh') : ZR l D M (pc) L (.int y :: .int x :: S) I F sh v I' F' sh' := by
  intro p e R s m args below meth c A H locs cells slots Q ro ga ls hX hZ hl hc hs hr
  exact lv_irem hX.1 hX.2.1 hd hne (k p e R s m args below meth c A H locs cells slots Q ro ga ls hX hZ hl hc hs hr)
theorem R_ladd {x y : Int64} (hd : decode M.2.1 pc = .ok (.ladd, 1))  (k : ZR l D M (pc + 1) L (.long (x + y) :: S) I F sh v I' F' sh') : ZR l D M (pc) L (.long y :: .long x :: S) I F sh v I' F' sh' := by
  intro p e R s m args below meth c A H locs cells slots Q ro ga ls hX hZ hl hc hs hr
  exact lv_ladd hX.1 hX.2.1 hd  (k p e R s m args below meth c A H locs cells slots Q ro ga ls hX hZ hl hc hs hr)
theorem R_lmul {x y : Int64} (hd : decode M.2.1 pc = .ok (.lmul, 1))  (k : ZR l D M (pc + 1) L (.long (x * y) :: S) I F sh v I' F' sh') : ZR l D M (pc) L (.long y :: .long x :: S) I F sh v I' F' sh' := by
  intro p e R s m args below meth c A H locs cells slots Q ro ga ls hX hZ hl hc hs hr
  exact lv_lmul hX.1 hX.2.1 hd  (k p e R s m args below meth c A H locs cells slots Q ro ga ls hX hZ hl hc hs hr)
theorem R_lrem {x y : Int64} (hd : decode M.2.1 pc = .ok (.lrem, 1)) (hne : ¬ y = 0) (k : ZR l D M (pc + 1) L (.long (x - x / y * y) :: S) I F sh v I' F' sh') : ZR l D M (pc) L (.long y :: .long x :: S) I F sh v I' F' sh' := by
  intro p e R s m args below meth c A H locs cells slots Q ro ga ls hX hZ hl hc hs hr
  exact lv_lrem hX.1 hX.2.1 hd hne (k p e R s m args below meth c A H locs cells slots Q ro ga ls hX hZ hl hc hs hr)
theorem R_i2l {x : Int32} (hd : decode M.2.1 pc = .ok (.i2l, 1))  (k : ZR l D M (pc + 1) L (.long x.toInt64 :: S) I F sh v I' F' sh') : ZR l D M (pc) L (.int x :: S) I F sh v I' F' sh' := by
  intro p e R s m args below meth c A H locs cells slots Q ro ga ls hX hZ hl hc hs hr
  exact lv_i2l hX.1 hX.2.1 hd rfl (k p e R s m args below meth c A H locs cells slots Q ro ga ls hX hZ hl hc hs hr)
theorem R_l2i {x : Int64} (hd : decode M.2.1 pc = .ok (.l2i, 1))  (k : ZR l D M (pc + 1) L (.int x.toInt32 :: S) I F sh v I' F' sh') : ZR l D M (pc) L (.long x :: S) I F sh v I' F' sh' := by
  intro p e R s m args below meth c A H locs cells slots Q ro ga ls hX hZ hl hc hs hr
  exact lv_l2i hX.1 hX.2.1 hd rfl (k p e R s m args below meth c A H locs cells slots Q ro ga ls hX hZ hl hc hs hr)
theorem R_i2b {x : Int32} (hd : decode M.2.1 pc = .ok (.i2b, 1))  (k : ZR l D M (pc + 1) L (.int x.toInt8.toInt32 :: S) I F sh v I' F' sh') : ZR l D M (pc) L (.int x :: S) I F sh v I' F' sh' := by
  intro p e R s m args below meth c A H locs cells slots Q ro ga ls hX hZ hl hc hs hr
  exact lv_i2b hX.1 hX.2.1 hd rfl (k p e R s m args below meth c A H locs cells slots Q ro ga ls hX hZ hl hc hs hr)
theorem R_i2c {x : Int32} (hd : decode M.2.1 pc = .ok (.i2c, 1))  (k : ZR l D M (pc + 1) L (.int (x.toUInt32 % 65536).toInt32 :: S) I F sh v I' F' sh') : ZR l D M (pc) L (.int x :: S) I F sh v I' F' sh' := by
  intro p e R s m args below meth c A H locs cells slots Q ro ga ls hX hZ hl hc hs hr
  exact lv_i2c hX.1 hX.2.1 hd rfl (k p e R s m args below meth c A H locs cells slots Q ro ga ls hX hZ hl hc hs hr)
theorem R_dup {a : Value} (hd : decode M.2.1 pc = .ok (.dup, 1)) (ha : a.category = 1) (k : ZR l D M (pc + 1) L (a :: a :: S) I F sh v I' F' sh') : ZR l D M (pc) L (a :: S) I F sh v I' F' sh' := by
  intro p e R s m args below meth c A H locs cells slots Q ro ga ls hX hZ hl hc hs hr
  exact lv_dup hX.1 hX.2.1 hd (by rw [zv_cat]; exact ha) (k p e R s m args below meth c A H locs cells slots Q ro ga ls hX hZ hl hc hs hr)
theorem R_pop {a : Value} (hd : decode M.2.1 pc = .ok (.pop, 1)) (ha : a.category = 1) (k : ZR l D M (pc + 1) L (S) I F sh v I' F' sh') : ZR l D M (pc) L (a :: S) I F sh v I' F' sh' := by
  intro p e R s m args below meth c A H locs cells slots Q ro ga ls hX hZ hl hc hs hr
  exact lv_pop hX.1 hX.2.1 hd (by rw [zv_cat]; exact ha) (k p e R s m args below meth c A H locs cells slots Q ro ga ls hX hZ hl hc hs hr)
theorem R_dup2 {a b : Value} (hd : decode M.2.1 pc = .ok (.dup2, 1)) (ha : a.category = 1) (hb : b.category = 1) (k : ZR l D M (pc + 1) L (a :: b :: a :: b :: S) I F sh v I' F' sh') : ZR l D M (pc) L (a :: b :: S) I F sh v I' F' sh' := by
  intro p e R s m args below meth c A H locs cells slots Q ro ga ls hX hZ hl hc hs hr
  exact lv_dup2_11 hX.1 hX.2.1 hd (by rw [zv_cat]; exact ha) (by rw [zv_cat]; exact hb) (k p e R s m args below meth c A H locs cells slots Q ro ga ls hX hZ hl hc hs hr)
theorem R_dup2l {a : Value} (hd : decode M.2.1 pc = .ok (.dup2, 1)) (ha : a.category = 2) (k : ZR l D M (pc + 1) L (a :: a :: S) I F sh v I' F' sh') : ZR l D M (pc) L (a :: S) I F sh v I' F' sh' := by
  intro p e R s m args below meth c A H locs cells slots Q ro ga ls hX hZ hl hc hs hr
  exact lv_dup2_2 hX.1 hX.2.1 hd (by rw [zv_cat]; exact ha) (k p e R s m args below meth c A H locs cells slots Q ro ga ls hX hZ hl hc hs hr)
theorem R_iconst {n : Int} {x : Int32} (hd : decode M.2.1 pc = .ok (.iconst n, 1)) (hv : Int32.ofInt n = x) (k : ZR l D M (pc + 1) L (.int x :: S) I F sh v I' F' sh') : ZR l D M (pc) L (S) I F sh v I' F' sh' := by
  intro p e R s m args below meth c A H locs cells slots Q ro ga ls hX hZ hl hc hs hr
  exact lv_iconst hX.1 hX.2.1 hd hv (k p e R s m args below meth c A H locs cells slots Q ro ga ls hX hZ hl hc hs hr)
theorem R_bipush {n : Int} {x : Int32} (hd : decode M.2.1 pc = .ok (.bipush n, 2)) (hv : (Int8.ofInt n).toInt32 = x) (k : ZR l D M (pc + 2) L (.int x :: S) I F sh v I' F' sh') : ZR l D M (pc) L (S) I F sh v I' F' sh' := by
  intro p e R s m args below meth c A H locs cells slots Q ro ga ls hX hZ hl hc hs hr
  exact lv_bipush hX.1 hX.2.1 hd hv (k p e R s m args below meth c A H locs cells slots Q ro ga ls hX hZ hl hc hs hr)
theorem R_sipush {n : Int} {x : Int32} (hd : decode M.2.1 pc = .ok (.sipush n, 3)) (hv : (Int16.ofInt n).toInt32 = x) (k : ZR l D M (pc + 3) L (.int x :: S) I F sh v I' F' sh') : ZR l D M (pc) L (S) I F sh v I' F' sh' := by
  intro p e R s m args below meth c A H locs cells slots Q ro ga ls hX hZ hl hc hs hr
  exact lv_sipush hX.1 hX.2.1 hd hv (k p e R s m args below meth c A H locs cells slots Q ro ga ls hX hZ hl hc hs hr)
theorem R_lconst {n : Fin 2} {x : Int64} (hd : decode M.2.1 pc = .ok (.lconst n, 1)) (hv : Int64.ofNat (n : Nat) = x) (k : ZR l D M (pc + 1) L (.long x :: S) I F sh v I' F' sh') : ZR l D M (pc) L (S) I F sh v I' F' sh' := by
  intro p e R s m args below meth c A H locs cells slots Q ro ga ls hX hZ hl hc hs hr
  exact lv_lconst hX.1 hX.2.1 hd hv (k p e R s m args below meth c A H locs cells slots Q ro ga ls hX hZ hl hc hs hr)
theorem R_ldc2 {n : Nat} {x : Int64} (hd : decode M.2.1 pc = .ok (.ldc2_w n, 3)) (hv : Cond.constantLong M.1.cls n x ∈ zT) (k : ZR l D M (pc + 3) L (.long x :: S) I F sh v I' F' sh') : ZR l D M (pc) L (S) I F sh v I' F' sh' := by
  intro p e R s m args below meth c A H locs cells slots Q ro ga ls hX hZ hl hc hs hr
  exact lv_ldc2 (own := M.1.cls) hX.1 hX.2.1 hX.2.2.2.1 (hX.2.2.2.2.1 _ (List.mem_cons_of_mem _ hv)) hd (k p e R s m args below meth c A H locs cells slots Q ro ga ls hX hZ hl hc hs hr)
theorem R_iload_n {n : Fin 4} {x : Int32} (hd : decode M.2.1 pc = .ok (.iload_n n, 1)) (hL : L[(n : Nat)]? = some (some (.int x))) (k : ZR l D M (pc + 1) L (.int x :: S) I F sh v I' F' sh') : ZR l D M (pc) L (S) I F sh v I' F' sh' := by
  intro p e R s m args below meth c A H locs cells slots Q ro ga ls hX hZ hl hc hs hr
  exact lv_iload_n hX.1 hX.2.1 hd rfl (zh_at hl hL) (k p e R s m args below meth c A H locs cells slots Q ro ga ls hX hZ hl hc hs hr)
theorem R_iload {n : Nat} {x : Int32} (hd : decode M.2.1 pc = .ok (.iload n, 2)) (hL : L[n]? = some (some (.int x))) (k : ZR l D M (pc + 2) L (.int x :: S) I F sh v I' F' sh') : ZR l D M (pc) L (S) I F sh v I' F' sh' := by
  intro p e R s m args below meth c A H locs cells slots Q ro ga ls hX hZ hl hc hs hr
  exact lv_iload hX.1 hX.2.1 hd (zh_at hl hL) (k p e R s m args below meth c A H locs cells slots Q ro ga ls hX hZ hl hc hs hr)
theorem R_lload_n {n : Fin 4} {x : Int64} (hd : decode M.2.1 pc = .ok (.lload_n n, 1)) (hL : L[(n : Nat)]? = some (some (.long x))) (k : ZR l D M (pc + 1) L (.long x :: S) I F sh v I' F' sh') : ZR l D M (pc) L (S) I F sh v I' F' sh' := by
  intro p e R s m args below meth c A H locs cells slots Q ro ga ls hX hZ hl hc hs hr
  exact lv_lload_n hX.1 hX.2.1 hd rfl (zh_at hl hL) (k p e R s m args below meth c A H locs cells slots Q ro ga ls hX hZ hl hc hs hr)
theorem R_lload {n : Nat} {x : Int64} (hd : decode M.2.1 pc = .ok (.lload n, 2)) (hL : L[n]? = some (some (.long x))) (k : ZR l D M (pc + 2) L (.long x :: S) I F sh v I' F' sh') : ZR l D M (pc) L (S) I F sh v I' F' sh' := by
  intro p e R s m args below meth c A H locs cells slots Q ro ga ls hX hZ hl hc hs hr
  exact lv_lload hX.1 hX.2.1 hd (zh_at hl hL) (k p e R s m args below meth c A H locs cells slots Q ro ga ls hX hZ hl hc hs hr)
theorem R_aload_n {n : Fin 4} {x : Nat} (hd : decode M.2.1 pc = .ok (.aload_n n, 1)) (hL : L[(n : Nat)]? = some (some (.ref x))) (k : ZR l D M (pc + 1) L (.ref x :: S) I F sh v I' F' sh') : ZR l D M (pc) L (S) I F sh v I' F' sh' := by
  intro p e R s m args below meth c A H locs cells slots Q ro ga ls hX hZ hl hc hs hr
  exact lv_aload_n hX.1 hX.2.1 hd rfl (zh_at hl hL) (k p e R s m args below meth c A H locs cells slots Q ro ga ls hX hZ hl hc hs hr)
theorem R_aload {n : Nat} {x : Nat} (hd : decode M.2.1 pc = .ok (.aload n, 2)) (hL : L[n]? = some (some (.ref x))) (k : ZR l D M (pc + 2) L (.ref x :: S) I F sh v I' F' sh') : ZR l D M (pc) L (S) I F sh v I' F' sh' := by
  intro p e R s m args below meth c A H locs cells slots Q ro ga ls hX hZ hl hc hs hr
  exact lv_aload hX.1 hX.2.1 hd (zh_at hl hL) (k p e R s m args below meth c A H locs cells slots Q ro ga ls hX hZ hl hc hs hr)
theorem R_istore_n {n : Fin 4} {x : Int32} (hd : decode M.2.1 pc = .ok (.istore_n n, 1)) (hn : (n : Nat) < M.2.2.1) (hg : zlong L (n : Nat) = false) (k : ZR l D M (pc + 1) (L.set (n : Nat) (some (.int x))) (S) I F sh v I' F' sh') : ZR l D M (pc) L (.int x :: S) I F sh v I' F' sh' := by
  intro p e R s m args below meth c A H locs cells slots Q ro ga ls hX hZ hl hc hs hr
  exact lv_istore_n hX.1 hX.2.1 hd rfl (zh_has hl) hn rfl (fun ls' hl' => k p e R s m args below meth c A H locs cells slots Q ro ga ls' hX hZ (zh_set1 (v := .int x) hg hl') hc hs hr)
theorem R_istore {n : Nat} {x : Int32} (hd : decode M.2.1 pc = .ok (.istore n, 2)) (hn : n < M.2.2.1) (hg : zlong L n = false) (k : ZR l D M (pc + 2) (L.set n (some (.int x))) (S) I F sh v I' F' sh') : ZR l D M (pc) L (.int x :: S) I F sh v I' F' sh' := by
  intro p e R s m args below meth c A H locs cells slots Q ro ga ls hX hZ hl hc hs hr
  exact lv_istore hX.1 hX.2.1 hd (zh_has hl) hn rfl (fun ls' hl' => k p e R s m args below meth c A H locs cells slots Q ro ga ls' hX hZ (zh_set1 (v := .int x) hg hl') hc hs hr)
theorem R_astore_n {n : Fin 4} {x : Nat} (hd : decode M.2.1 pc = .ok (.astore_n n, 1)) (hn : (n : Nat) < M.2.2.1) (hg : zlong L (n : Nat) = false) (k : ZR l D M (pc + 1) (L.set (n : Nat) (some (.ref x))) (S) I F sh v I' F' sh') : ZR l D M (pc) L (.ref x :: S) I F sh v I' F' sh' := by
  intro p e R s m args below meth c A H locs cells slots Q ro ga ls hX hZ hl hc hs hr
  exact lv_astore_n hX.1 hX.2.1 hd rfl (zh_has hl) hn rfl (fun ls' hl' => k p e R s m args below meth c A H locs cells slots Q ro ga ls' hX hZ (zh_set1 (v := .ref x) hg hl') hc hs hr)
theorem R_astore {n : Nat} {x : Nat} (hd : decode M.2.1 pc = .ok (.astore n, 2)) (hn : n < M.2.2.1) (hg : zlong L n = false) (k : ZR l D M (pc + 2) (L.set n (some (.ref x))) (S) I F sh v I' F' sh') : ZR l D M (pc) L (.ref x :: S) I F sh v I' F' sh' := by
  intro p e R s m args below meth c A H locs cells slots Q ro ga ls hX hZ hl hc hs hr
  exact lv_astore hX.1 hX.2.1 hd (zh_has hl) hn rfl (fun ls' hl' => k p e R s m args below meth c A H locs cells slots Q ro ga ls' hX hZ (zh_set1 (v := .ref x) hg hl') hc hs hr)
theorem R_lstore_n {n : Fin 4} {x : Int64} (hd : decode M.2.1 pc = .ok (.lstore_n n, 1)) (hn : (n : Nat) + 1 < M.2.2.1) (hg : zlong L (n : Nat) = false) (k : ZR l D M (pc + 1) ((L.set (n : Nat) (some (.long x))).set ((n : Nat) + 1) none) (S) I F sh v I' F' sh') : ZR l D M (pc) L (.long x :: S) I F sh v I' F' sh' := by
  intro p e R s m args below meth c A H locs cells slots Q ro ga ls hX hZ hl hc hs hr
  exact lv_lstore_n hX.1 hX.2.1 hd rfl (zh_has hl) hn rfl (fun ls' hl' => k p e R s m args below meth c A H locs cells slots Q ro ga ls' hX hZ (zh_set2 hg hl') hc hs hr)
theorem R_lstore {n : Nat} {x : Int64} (hd : decode M.2.1 pc = .ok (.lstore n, 2)) (hn : n + 1 < M.2.2.1) (hg : zlong L n = false) (k : ZR l D M (pc + 2) ((L.set n (some (.long x))).set (n + 1) none) (S) I F sh v I' F' sh') : ZR l D M (pc) L (.long x :: S) I F sh v I' F' sh' := by
  intro p e R s m args below meth c A H locs cells slots Q ro ga ls hX hZ hl hc hs hr
  exact lv_lstore hX.1 hX.2.1 hd (zh_has hl) hn rfl (fun ls' hl' => k p e R s m args below meth c A H locs cells slots Q ro ga ls' hX hZ (zh_set2 hg hl') hc hs hr)
theorem R_iinc {i : Nat} {n : Int} {x y : Int32} (hd : decode M.2.1 pc = .ok (.iinc i n, 3)) (hL : L[i]? = some (some (.int x))) (hv : x + Int32.ofInt n = y) (hn : i < M.2.2.1) (hg : zlong L i = false) (k : ZR l D M (pc + 3) (L.set i (some (.int y))) (S) I F sh v I' F' sh') : ZR l D M (pc) L (S) I F sh v I' F' sh' := by
  intro p e R s m args below meth c A H locs cells slots Q ro ga ls hX hZ hl hc hs hr
  obtain ⟨q, hq⟩ := List.getElem?_of_mem (zl_in (ro := ro) (v := .int x).mpr ⟨_, hL, rfl⟩)
  exact lv_iinc hX.1 hX.2.1 hd (zh_has hl) hq hv hn rfl (fun ls' hl' => k p e R s m args below meth c A H locs cells slots Q ro ga ls' hX hZ (zh_set1 (v := .int y) hg hl') hc hs hr)
theorem R_goto {off : Int} {tgt : Nat} (hd : decode M.2.1 pc = .ok (.goto off, 3)) (ht : (pc : Int) + off = (tgt : Int)) (k : ZR l D M (tgt) L (S) I F sh v I' F' sh') : ZR l D M (pc) L (S) I F sh v I' F' sh' := by
  intro p e R s m args below meth c A H locs cells slots Q ro ga ls hX hZ hl hc hs hr
  exact lv_goto hX.1 hX.2.1 hd ht (k p e R s m args below meth c A H locs cells slots Q ro ga ls hX hZ hl hc hs hr)
theorem R_icmp_eq {x y : Int32} {off : Int} {tgt : Nat} (hd : decode M.2.1 pc = .ok (.if_icmp .eq off, 3)) (ht : (pc : Int) + off = (tgt : Int)) (kt : x = y → ZR l D M (tgt) L (S) I F sh v I' F' sh') (kf : ¬ x = y → ZR l D M (pc + 3) L (S) I F sh v I' F' sh') : ZR l D M (pc) L (.int y :: .int x :: S) I F sh v I' F' sh' := by
  intro p e R s m args below meth c A H locs cells slots Q ro ga ls hX hZ hl hc hs hr
  exact lv_icmp_eq hX.1 hX.2.1 hd ht (fun h => kt h p e R s m args below meth c A H locs cells slots Q ro ga ls hX hZ hl hc hs hr) (fun h => kf h p e R s m args below meth c A H locs cells slots Q ro ga ls hX hZ hl hc hs hr)
theorem R_if_eq {x : Int32} {off : Int} {tgt : Nat} (hd : decode M.2.1 pc = .ok (.ifCond .eq off, 3)) (ht : (pc : Int) + off = (tgt : Int)) (kt : x = 0 → ZR l D M (tgt) L (S) I F sh v I' F' sh') (kf : ¬ x = 0 → ZR l D M (pc + 3) L (S) I F sh v I' F' sh') : ZR l D M (pc) L (.int x :: S) I F sh v I' F' sh' := by
  intro p e R s m args below meth c A H locs cells slots Q ro ga ls hX hZ hl hc hs hr
  exact lv_if_eq hX.1 hX.2.1 hd ht (fun h => kt h p e R s m args below meth c A H locs cells slots Q ro ga ls hX hZ hl hc hs hr) (fun h => kf h p e R s m args below meth c A H locs cells slots Q ro ga ls hX hZ hl hc hs hr)
theorem R_icmp_ne {x y : Int32} {off : Int} {tgt : Nat} (hd : decode M.2.1 pc = .ok (.if_icmp .ne off, 3)) (ht : (pc : Int) + off = (tgt : Int)) (kt : ¬ x = y → ZR l D M (tgt) L (S) I F sh v I' F' sh') (kf : x = y → ZR l D M (pc + 3) L (S) I F sh v I' F' sh') : ZR l D M (pc) L (.int y :: .int x :: S) I F sh v I' F' sh' := by
  intro p e R s m args below meth c A H locs cells slots Q ro ga ls hX hZ hl hc hs hr
  exact lv_icmp_ne hX.1 hX.2.1 hd ht (fun h => kt h p e R s m args below meth c A H locs cells slots Q ro ga ls hX hZ hl hc hs hr) (fun h => kf h p e R s m args below meth c A H locs cells slots Q ro ga ls hX hZ hl hc hs hr)
theorem R_if_ne {x : Int32} {off : Int} {tgt : Nat} (hd : decode M.2.1 pc = .ok (.ifCond .ne off, 3)) (ht : (pc : Int) + off = (tgt : Int)) (kt : ¬ x = 0 → ZR l D M (tgt) L (S) I F sh v I' F' sh') (kf : x = 0 → ZR l D M (pc + 3) L (S) I F sh v I' F' sh') : ZR l D M (pc) L (.int x :: S) I F sh v I' F' sh' := by
  intro p e R s m args below meth c A H locs cells slots Q ro ga ls hX hZ hl hc hs hr
  exact lv_if_ne hX.1 hX.2.1 hd ht (fun h => kt h p e R s m args below meth c A H locs cells slots Q ro ga ls hX hZ hl hc hs hr) (fun h => kf h p e R s m args below meth c A H locs cells slots Q ro ga ls hX hZ hl hc hs hr)
theorem R_icmp_lt {x y : Int32} {off : Int} {tgt : Nat} (hd : decode M.2.1 pc = .ok (.if_icmp .lt off, 3)) (ht : (pc : Int) + off = (tgt : Int)) (kt : x < y → ZR l D M (tgt) L (S) I F sh v I' F' sh') (kf : ¬ x < y → ZR l D M (pc + 3) L (S) I F sh v I' F' sh') : ZR l D M (pc) L (.int y :: .int x :: S) I F sh v I' F' sh' := by
  intro p e R s m args below meth c A H locs cells slots Q ro ga ls hX hZ hl hc hs hr
  exact lv_icmp_lt hX.1 hX.2.1 hd ht (fun h => kt h p e R s m args below meth c A H locs cells slots Q ro ga ls hX hZ hl hc hs hr) (fun h => kf h p e R s m args below meth c A H locs cells slots Q ro ga ls hX hZ hl hc hs hr)
theorem R_if_lt {x : Int32} {off : Int} {tgt : Nat} (hd : decode M.2.1 pc = .ok (.ifCond .lt off, 3)) (ht : (pc : Int) + off = (tgt : Int)) (kt : x < 0 → ZR l D M (tgt) L (S) I F sh v I' F' sh') (kf : ¬ x < 0 → ZR l D M (pc + 3) L (S) I F sh v I' F' sh') : ZR l D M (pc) L (.int x :: S) I F sh v I' F' sh' := by
  intro p e R s m args below meth c A H locs cells slots Q ro ga ls hX hZ hl hc hs hr
  exact lv_if_lt hX.1 hX.2.1 hd ht (fun h => kt h p e R s m args below meth c A H locs cells slots Q ro ga ls hX hZ hl hc hs hr) (fun h => kf h p e R s m args below meth c A H locs cells slots Q ro ga ls hX hZ hl hc hs hr)
theorem R_icmp_ge {x y : Int32} {off : Int} {tgt : Nat} (hd : decode M.2.1 pc = .ok (.if_icmp .ge off, 3)) (ht : (pc : Int) + off = (tgt : Int)) (kt : y ≤ x → ZR l D M (tgt) L (S) I F sh v I' F' sh') (kf : ¬ y ≤ x → ZR l D M (pc + 3) L (S) I F sh v I' F' sh') : ZR l D M (pc) L (.int y :: .int x :: S) I F sh v I' F' sh' := by
  intro p e R s m args below meth c A H locs cells slots Q ro ga ls hX hZ hl hc hs hr
  exact lv_icmp_ge hX.1 hX.2.1 hd ht (fun h => kt h p e R s m args below meth c A H locs cells slots Q ro ga ls hX hZ hl hc hs hr) (fun h => kf h p e R s m args below meth c A H locs cells slots Q ro ga ls hX hZ hl hc hs hr)
theorem R_if_ge {x : Int32} {off : Int} {tgt : Nat} (hd : decode M.2.1 pc = .ok (.ifCond .ge off, 3)) (ht : (pc : Int) + off = (tgt : Int)) (kt : 0 ≤ x → ZR l D M (tgt) L (S) I F sh v I' F' sh') (kf : ¬ 0 ≤ x → ZR l D M (pc + 3) L (S) I F sh v I' F' sh') : ZR l D M (pc) L (.int x :: S) I F sh v I' F' sh' := by
  intro p e R s m args below meth c A H locs cells slots Q ro ga ls hX hZ hl hc hs hr
  exact lv_if_ge hX.1 hX.2.1 hd ht (fun h => kt h p e R s m args below meth c A H locs cells slots Q ro ga ls hX hZ hl hc hs hr) (fun h => kf h p e R s m args below meth c A H locs cells slots Q ro ga ls hX hZ hl hc hs hr)
theorem R_icmp_gt {x y : Int32} {off : Int} {tgt : Nat} (hd : decode M.2.1 pc = .ok (.if_icmp .gt off, 3)) (ht : (pc : Int) + off = (tgt : Int)) (kt : y < x → ZR l D M (tgt) L (S) I F sh v I' F' sh') (kf : ¬ y < x → ZR l D M (pc + 3) L (S) I F sh v I' F' sh') : ZR l D M (pc) L (.int y :: .int x :: S) I F sh v I' F' sh' := by
  intro p e R s m args below meth c A H locs cells slots Q ro ga ls hX hZ hl hc hs hr
  exact lv_icmp_gt hX.1 hX.2.1 hd ht (fun h => kt h p e R s m args below meth c A H locs cells slots Q ro ga ls hX hZ hl hc hs hr) (fun h => kf h p e R s m args below meth c A H locs cells slots Q ro ga ls hX hZ hl hc hs hr)
theorem R_if_gt {x : Int32} {off : Int} {tgt : Nat} (hd : decode M.2.1 pc = .ok (.ifCond .gt off, 3)) (ht : (pc : Int) + off = (tgt : Int)) (kt : 0 < x → ZR l D M (tgt) L (S) I F sh v I' F' sh') (kf : ¬ 0 < x → ZR l D M (pc + 3) L (S) I F sh v I' F' sh') : ZR l D M (pc) L (.int x :: S) I F sh v I' F' sh' := by
  intro p e R s m args below meth c A H locs cells slots Q ro ga ls hX hZ hl hc hs hr
  exact lv_if_gt hX.1 hX.2.1 hd ht (fun h => kt h p e R s m args below meth c A H locs cells slots Q ro ga ls hX hZ hl hc hs hr) (fun h => kf h p e R s m args below meth c A H locs cells slots Q ro ga ls hX hZ hl hc hs hr)
theorem R_icmp_le {x y : Int32} {off : Int} {tgt : Nat} (hd : decode M.2.1 pc = .ok (.if_icmp .le off, 3)) (ht : (pc : Int) + off = (tgt : Int)) (kt : x ≤ y → ZR l D M (tgt) L (S) I F sh v I' F' sh') (kf : ¬ x ≤ y → ZR l D M (pc + 3) L (S) I F sh v I' F' sh') : ZR l D M (pc) L (.int y :: .int x :: S) I F sh v I' F' sh' := by
  intro p e R s m args below meth c A H locs cells slots Q ro ga ls hX hZ hl hc hs hr
  exact lv_icmp_le hX.1 hX.2.1 hd ht (fun h => kt h p e R s m args below meth c A H locs cells slots Q ro ga ls hX hZ hl hc hs hr) (fun h => kf h p e R s m args below meth c A H locs cells slots Q ro ga ls hX hZ hl hc hs hr)
theorem R_if_le {x : Int32} {off : Int} {tgt : Nat} (hd : decode M.2.1 pc = .ok (.ifCond .le off, 3)) (ht : (pc : Int) + off = (tgt : Int)) (kt : x ≤ 0 → ZR l D M (tgt) L (S) I F sh v I' F' sh') (kf : ¬ x ≤ 0 → ZR l D M (pc + 3) L (S) I F sh v I' F' sh') : ZR l D M (pc) L (.int x :: S) I F sh v I' F' sh' := by
  intro p e R s m args below meth c A H locs cells slots Q ro ga ls hX hZ hl hc hs hr
  exact lv_if_le hX.1 hX.2.1 hd ht (fun h => kt h p e R s m args below meth c A H locs cells slots Q ro ga ls hX hZ hl hc hs hr) (fun h => kf h p e R s m args below meth c A H locs cells slots Q ro ga ls hX hZ hl hc hs hr)
theorem R_lookup {dflt : Int} {ps : Array (Int × Int)} {len : Nat} {x : Int32} {off : Int} {tgt : Nat} (hd : decode M.2.1 pc = .ok (.lookupswitch dflt ps, len)) (hp : (ps.toList.zip (ps.toList.drop 1)).all (fun (a, next) => a.1 < next.1) = true) (ho : Op.lookupswitch.offset ps.toList dflt x.toInt = off) (ht : (pc : Int) + off = (tgt : Int)) (k : ZR l D M (tgt) L (S) I F sh v I' F' sh') : ZR l D M (pc) L (.int x :: S) I F sh v I' F' sh' := by
  intro p e R s m args below meth c A H locs cells slots Q ro ga ls hX hZ hl hc hs hr
  exact lv_lookup hX.1 hX.2.1 hd hp ho ht (k p e R s m args below meth c A H locs cells slots Q ro ga ls hX hZ hl hc hs hr)
theorem R_tableOut {dflt lo hi : Int} {offs : Array Int} {len : Nat} {x : Int32} {tgt : Nat} (hd : decode M.2.1 pc = .ok (.tableswitch dflt lo hi offs, len)) (h : x.toInt < lo ∨ hi < x.toInt) (ht : (pc : Int) + dflt = (tgt : Int)) (k : ZR l D M (tgt) L (S) I F sh v I' F' sh') : ZR l D M (pc) L (.int x :: S) I F sh v I' F' sh' := by
  intro p e R s m args below meth c A H locs cells slots Q ro ga ls hX hZ hl hc hs hr
  exact lv_tableOut hX.1 hX.2.1 hd h ht (k p e R s m args below meth c A H locs cells slots Q ro ga ls hX hZ hl hc hs hr)
theorem R_tableIn {dflt lo hi : Int} {offs : Array Int} {len : Nat} {x : Int32} {off : Int} {tgt : Nat} (hd : decode M.2.1 pc = .ok (.tableswitch dflt lo hi offs, len)) (h1 : ¬ x.toInt < lo) (h2 : ¬ hi < x.toInt) (ho : offs[(x.toInt - lo).toNat]? = some off) (ht : (pc : Int) + off = (tgt : Int)) (k : ZR l D M (tgt) L (S) I F sh v I' F' sh') : ZR l D M (pc) L (.int x :: S) I F sh v I' F' sh' := by
  intro p e R s m args below meth c A H locs cells slots Q ro ga ls hX hZ hl hc hs hr
  exact lv_tableIn hX.1 hX.2.1 hd h1 h2 ho ht (k p e R s m args below meth c A H locs cells slots Q ro ga ls hX hZ hl hc hs hr)
theorem zAg.rf {ro : Nat → Nat} {ga : Nat → ClassId} {sh : AS} : zAg ro ro ga ga sh sh := ⟨fun _ _ => rfl, fun _ => ⟨rfl, rfl⟩⟩
theorem R_iret {x : Int32} (hd : decode M.2.1 pc = .ok (.ireturn, 1)) : ZR l D M pc L [.int x] I F sh (some x) I F sh := by
  intro p e R s m args below meth c A H locs cells slots Q ro ga ls hX hZ hl hc hs hr
  have h := hr H locs ro ga pc ls hZ zAg.rf hd
  simp only [Nat.sub_self, Nat.add_zero] at h
  exact h
theorem R_ret (hd : decode M.2.1 pc = .ok (.return_, 1)) : ZR l D M pc L [] I F sh none I F sh := by
  intro p e R s m args below meth c A H locs cells slots Q ro ga ls hX hZ hl hc hs hr
  have h := hr H locs ro ga pc ls hZ zAg.rf hd
  simp only [Nat.sub_self, Nat.add_zero] at h
  exact h
end ZRows
