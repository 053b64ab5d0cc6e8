/-! a method's contract out of its judgement, and the rows of calls -/
section ZCall
variable {l : Launch} {D : va_G} {M : ZM} {pc : Nat} {L : List (Option Value)} {S : List Value} {I : AI} {F : AR} {sh : AS} {v : Option Int32} {I' : AI} {F' : AR} {sh' : AS}
def zB (D : va_G) (A : Nat → Prop) (ro : Nat → Nat) (ga : Nat → ClassId) (I : AI) (F : AR) (sh : AS) (U : State) : Prop := va_P D vwCl (zw ro ga I F sh) U.heap ∧ zKs D ga sh U ∧ va_D A (zw ro ga I F sh) ∧ zFw F sh.length
def zPc (D : va_G) (ro : Nat → Nat) (ga : Nat → ClassId) (I : AI) (F : AR) (sh : AS) (sz : Nat) (As : List Value) : Array Value → State → Prop := va_Pc (As.map (zv ro)) (fun U => U.heap.size = sz ∧ zB D (fun _ => True) ro ga I F sh U ∧ zNs U)
def zQc (D : va_G) (ro : Nat → Nat) (ga : Nat → ClassId) (A1 : Nat → Prop) (sh : AS) (v : Option Int32) (I' : AI) (F' : AR) (sh' : AS) : Array Value → State → Outcome → State → Prop := fun _ st oc t => oc = .returned (v.map Value.int) ∧ (∃ (ro' : Nat → Nat) (ga' : Nat → ClassId), zB D A1 ro' ga' I' F' sh' t ∧ zAg ro ro' ga ga' sh sh') ∧ va_F A1 st t
/-- the locals at a method's entry: its arguments (none of them a long), then nothing -/
def zent (n : Nat) (As : List Value) : List (Option Value) := As.map some ++ List.replicate (n - As.length) none
theorem lv_args_at {As : List Value} (h : ∀ a ∈ As, a.category = 1) : ∀ (k i : Nat) (a : Value), As[i]? = some a → (k + i, a) ∈ lv_args k As := by
  induction As with
  | nil => intro k i a h1; simp at h1
  | cons b As ih =>
    intro k i a h1
    have hb : b.category = 1 := h b List.mem_cons_self
    cases i with
    | zero =>
      simp only [List.getElem?_cons_zero, Option.some.injEq] at h1
      subst h1
      exact List.mem_cons_self
    | succ i =>
      simp only [List.getElem?_cons_succ] at h1
      have := ih (fun a ha => h a (List.mem_cons_of_mem _ ha)) (k + 1) i a h1
      unfold lv_args
      rw [if_neg (by omega)]
      rw [show k + (i + 1) = k + 1 + i by omega]
      exact List.mem_cons_of_mem _ this
theorem zh_entry {ro : Nat → Nat} {n : Nat} {As : List Value} (h : ∀ a ∈ As, a.category = 1) {ls : Array Slot} (hl : lv_has ls n (lv_args 0 (As.map (zv ro)))) : zh ro ls n (zent n As) := by
  refine ⟨hl.1, hl.2.1, fun i a hi => ?_⟩
  unfold zent at hi
  by_cases hlt : i < As.length
  · rw [List.getElem?_append_left (by rw [List.length_map]; exact hlt), List.getElem?_map] at hi
    cases ha : As[i]? with
    | none => rw [ha] at hi; cases hi
    | some b =>
      rw [ha] at hi
      cases hi
      have h1 := lv_args_at (As := As.map (zv ro)) (fun x hx => by
        obtain ⟨y, hy, rfl⟩ := List.mem_map.mp hx
        rw [zv_cat]; exact h y hy) 0 i (zv ro a) (by rw [List.getElem?_map, ha]; rfl)
      rw [Nat.zero_add] at h1
      exact hl.2.2 _ h1
  · rw [List.getElem?_append_right (by rw [List.length_map]; omega)] at hi
    have := List.mem_of_getElem? hi
    rw [List.mem_replicate] at this
    cases this.2
theorem zsl_len (vs : List Value) (h : ∀ a ∈ vs, a.category = 1) : (lg_sl vs).length = vs.length := by
  induction vs with
  | nil => rfl
  | cons b vs ih =>
    have hb : b.category = 1 := h b List.mem_cons_self
    unfold lg_sl at ih ⊢
    rw [List.flatMap_cons, if_neg (by omega), List.length_append, ih (fun a ha => h a (List.mem_cons_of_mem _ ha))]
    simp; omega
theorem zB.moved {D : va_G} {A : Nat → Prop} {ro : Nat → Nat} {ga : Nat → ClassId} {I : AI} {F : AR} {sh : AS} {u U : State} (hvm : u.vm.Alike U.vm) (hh : U.heap = u.heap) (h : zB D A ro ga I F sh u) : zB D A ro ga I F sh U := ⟨by rw [hh]; exact h.1, h.2.1.moved hvm, h.2.2⟩
/-- what a method must bring to be called: its return is void, an int or a boolean -/
def zRet (ret : Option FieldType) (v : Option Int32) : Prop := match v with
  | none => ret = none
  | some x => ret = some .int ∨ ∃ ty, ret = some ty ∧ narrow ty (.int x) = .int x
theorem Z_met {N : ZM} {As : List Value} {sz : Nat} {ro : Nat → Nat} {ga : Nat → ClassId} (hp : plainName N.1.cls = true) (hcat : (As.all fun a => a.category == 1) = true) (hlen : As.length ≤ N.2.2.1) (hret : zRet N.2.2.2.1 v) (h : ZR l D N 0 (zent N.2.2.1 As) [] I F sh v I' F' sh') :
    Met l N.1 (zws N) ({ frames := N.2.2.2.2.1, cells := sh'.length - sh.length, slots := zsl sh' - zsl sh, locals := N.2.2.2.2.2.1 }) (zPc D ro ga I F sh sz As) (zQc D ro ga (va_A (zw ro ga I F sh) sz) sh v I' F' sh') (sh'.length - sh.length) (zsl sh' - zsl sh) (va_A (zw ro ga I F sh) sz) := by
  have hcat' : ∀ a ∈ As, a.category = 1 := fun a ha => by simpa using List.all_eq_true.mp hcat a ha
  refine Met.ofW (cc := N.2.1) (maxL := N.2.2.1) (ret := N.2.2.2.1) hp rfl ?_
  intro p e s m args below meth c s₁ B hml hv
  obtain ⟨rfl, hsz, ⟨hP, hK, hD0, hFw⟩, hNs⟩ := hv
  have hr := B.returns
  have hts := atoms_spec (ws := zws N) B.pre
  have hown : s.vm.findClass N.1.cls = some m.cls := findClass_of_methodNamed B.named
  have hlocks := B.notSynchronized
  subst hsz
  have hD := hD0.self (sz := s.heap.size)
  generalize hAe : va_A (zw ro ga I F sh) s.heap.size = A at hD ⊢
  have hA : ∀ q : Nat, s.heap.size ≤ q → A q := fun q h => by rw [← hAe]; exact Or.inr h
  have hS : va_S A s.heap s.heap [] := va_S.rf
  have hl := lv_entry (As.map (zv ro)) (n := N.2.2.1) (by rw [zsl_len _ (fun x hx => by obtain ⟨y, hy, rfl⟩ := List.mem_map.mp hx; rw [zv_cat]; exact hcat' y hy), List.length_map]; exact hlen)
  rw [lg_entry_eq]
  generalize (lg_sl (As.map (zv ro)) ++ List.replicate (N.2.2.1 - (lg_sl (As.map (zv ro))).length) Slot.unset).toArray = ls at hl ⊢
  refine h p e _ s m _ below meth c A s.heap [] 0 0 _ ro ga ls ⟨B.exec, B.bytes, hml, hown, hts, hNs, Nat.le_refl _, Nat.le_refl _, hA, fun hn => (name_of_methodNamed B.named B.method).1.trans hn⟩ ⟨hP, hD, hS, hK, hFw⟩ (zh_entry hcat' hl) (Nat.le_of_eq (Nat.zero_add _)) (Nat.le_of_eq (Nat.zero_add _)) ?_
  intro H' locs' ro' ga' pc' ls' hZ hag hdec
  rw [Nat.zero_add, Nat.zero_add]
  have hq : ∀ t : State, t.heap = H' → s.WarmedH t.vm → zQc D ro ga A sh v I' F' sh' ((As.map (zv ro)).toArray) s (.returned (v.map Value.int)) t := fun t ht hW => ⟨rfl, ⟨ro', ga', ⟨by rw [ht]; exact hZ.1, hZ.2.2.2.1.moved hW.alike, hZ.2.1, hZ.2.2.2.2⟩, hag⟩, hZ.2.2.1.F ht⟩
  cases v with
  | none =>
    have hr0 : meth.sig.returnType = none := hr.trans hret
    exact W.vret B.exec B.bytes hr0 hq hZ.2.2.1.2.2 hdec
  | some x =>
    rcases hret with h1 | ⟨ty, h1, h2⟩
    · exact W.iret B.exec B.bytes (hr.trans h1) hq hZ.2.2.1.2.2 hdec
    · exact W.zret B.exec B.bytes (hr.trans h1) h2 hq hZ.2.2.1.2.2 hdec
theorem zPc_blind {ro : Nat → Nat} {ga : Nat → ClassId} {sz : Nat} {As : List Value} : FrameBlind (zPc D ro ga I F sh sz As) := by
  intro a U g mk h
  obtain ⟨h1, h2, h3, h4⟩ := h
  exact ⟨h1, h2, h3.moved (u := U) (U := U.calling g mk a) (Vm.Alike.refl U.vm) rfl, zNs.same (u := U) (U := U.calling g mk a) rfl h4⟩
theorem zPc_at {ro : Nat → Nat} {ga : Nat → ClassId} {s : State} {A : Nat → Prop} {H : Heap} {locs : List Loc} {As : List Value} (hZ : ZS D s A ro ga I F sh H locs) (hN : zNs s) : ∀ U : State, U.heap = H → s.WarmedH U.vm → zPc D ro ga I F sh H.size As (As.map (zv ro)).toArray U :=
  fun U hU hW => ⟨rfl, by rw [hU], ⟨by rw [hU]; exact hZ.1, hZ.2.2.2.1.moved hW.alike, ⟨hZ.2.1.1, fun _ _ _ => trivial⟩, hZ.2.2.2.2⟩, hN.warm hW⟩
theorem zA_sub {ro : Nat → Nat} {ga : Nat → ClassId} {s : State} {A : Nat → Prop} {H : Heap} {locs : List Loc} (hZ : ZS D s A ro ga I F sh H locs) (hA : ∀ q, s.heap.size ≤ q → A q) : ∀ q, va_A (zw ro ga I F sh) H.size q → A q := by
  intro q h
  rcases h with ⟨k, e, h⟩ | h
  · exact hZ.2.1.2 k _ h
  · exact hA q (Nat.le_trans hZ.2.2.1.1 h)
/-- behind a call: on with its answer and its memory. Cells that are new to the caller come only where the locals and the stack name old ones. -/
theorem Z_after {J : AI} {G : AR} {th : AS} {u : Option Int32} {p : Program} {e : Env} {R : Room} {s : State} {m : MethodId} {args : Array Value} {below : List Frame} {meth : Method} {c : Code} {A : Nat → Prop} {H : Heap} {locs : List Loc} {cells slots : Nat} {Q : State → Prop} {ro : Nat → Nat} {ga : Nat → ClassId} {ls : Array Slot} {st0 : List Value} {a : Array Value}
    (hX : ZX D M p R s m args meth c A) (hZ : ZS D s A ro ga I F sh H locs) (hl : zh ro ls M.2.2.1 L) (hc : cells + (sh'.length - sh.length) ≤ R.cells) (hs : slots + (zsl sh' - zsl sh) ≤ R.slots) (hr : ZE l D M sh v I' F' sh' p e R s m args below meth c A cells slots Q ro ga)
    (hnew : th = sh ∨ (sh.length < th.length ∧ th.length ≤ sh'.length ∧ zsl sh ≤ zsl th ∧ zsl th ≤ zsl sh' ∧ (∀ b, Value.ref b ∈ S → b < sh.length ∨ 90000 ≤ b) ∧ ∀ b, some (Value.ref b) ∈ L → b < sh.length ∨ 90000 ≤ b))
    (hrun : va_Run p l e R s m args below meth c H locs cells slots (th.length - sh.length) (zsl th - zsl sh) (F0 m pc ls st0) (S.map (zv ro)) (zQc D ro ga (va_A (zw ro ga I F sh) H.size) sh u J G th a) (va_A (zw ro ga I F sh) H.size))
    (kk : ZR l D M (pc + 3) L (u.toList.map Value.int ++ S) J G th v I' F' sh') : W p l e R s m args below meth c H locs cells slots Q (F0 m pc ls st0) := by
  intro T hT X
  obtain ⟨w, st₀, t, T', Lc, h0, X', hL, e1, e2, ⟨hw, ⟨ro', ga', hB, hag⟩, hz, hk⟩, st⟩ := hrun T hT X
  have hw' : w = u.map Value.int := by cases hw; rfl
  subst hw'
  rw [h0] at hz hk
  have hAs := zA_sub hZ hX.2.2.2.2.2.2.2.2.1
  have hS1 : va_S A s.heap T'.heap (locs ++ Lc) := ⟨Nat.le_trans hZ.2.2.1.1 (by rw [e1]; exact hz), fun q h1 h2 => by rw [e1, hk q (Nat.lt_of_lt_of_le h1 hZ.2.2.1.1) (fun z => h2 (hAs q z))]; exact hZ.2.2.1.2.1 q h1 h2, fun q hq => by
      rcases List.mem_append.mp hq with h | h
      · exact hZ.2.2.1.2.2 q h
      · exact hAs _ (hL q h)⟩
  have hvm : t.vm.Alike s.vm := by rw [← e2]; exact X'.warmed.alike.symm
  have hZ1 : ZS D s A ro' ga' J G th T'.heap (locs ++ Lc) := ⟨by rw [e1]; exact hB.1, ⟨hB.2.2.1.1, fun k q hq => hAs _ (hB.2.2.1.2 k q hq)⟩, hS1, hB.2.1.moved hvm, hB.2.2.2⟩
  have hstk : (u.map Value.int).toList ++ S.map (zv ro) = (u.toList.map Value.int ++ S).map (zv ro') := by
    have hSS : S.map (zv ro) = S.map (zv ro') := by
      rcases hnew with rfl | ⟨-, -, -, -, hS, -⟩
      · rw [(hag.2 rfl).1]
      · refine List.map_congr_left fun x hx => ?_
        cases x with
        | ref b => show Value.ref (ro b) = Value.ref (ro' b); rw [hag.1 b (hS b hx)]
        | _ => rfl
    rw [List.map_append, hSS]
    cases u <;> rfl
  have hl1 : zh ro' ls M.2.2.1 L := by
    rcases hnew with rfl | ⟨-, -, -, -, -, hLL⟩
    · rw [(hag.2 rfl).1]; exact hl
    · refine ⟨hl.1, hl.2.1, fun i x hi => ?_⟩
      rw [hl.2.2 i x hi]
      cases x with
      | ref b => show some (Slot.val (.ref (ro b))) = some (Slot.val (.ref (ro' b))); rw [hag.1 b (hLL b (List.mem_of_getElem? hi))]
      | _ => rfl
  have hcs : cells + (th.length - sh.length) + (sh'.length - th.length) = cells + (sh'.length - sh.length) ∧ slots + (zsl th - zsl sh) + (zsl sh' - zsl th) = slots + (zsl sh' - zsl sh) := by
    rcases hnew with rfl | ⟨h1, h2, h3, h4, -, -⟩
    · simp
    · omega
  have K := kk p e R s m args below meth c A T'.heap (locs ++ Lc) (cells + (th.length - sh.length)) (slots + (zsl th - zsl sh)) Q ro' ga' ls hX hZ1 hl1 (by rw [hcs.1]; exact hc) (by rw [hcs.2]; exact hs) (by
    intro H2 locs2 ro2 ga2 pc2 ls2 hZ2 hag2 hd2
    rw [hcs.1, hcs.2]
    refine hr H2 locs2 ro2 ga2 pc2 ls2 hZ2 ?_ hd2
    rcases hnew with rfl | ⟨h1, h2, -, -, -, -⟩
    · obtain ⟨r1, r2⟩ := hag.2 rfl
      subst r1 r2
      exact hag2
    · refine ⟨fun b hb => ?_, fun hsh => ?_⟩
      · rw [hag2.1 b (by rcases hb with hb | hb <;> omega), hag.1 b hb]
      · subst hsh; omega)
  rw [← hstk] at K
  obtain ⟨t2, a1, b1⟩ := K T' rfl X'
  exact ⟨t2, st t2 a1, b1⟩
/-- what is the same of a callee at every call: its words, its class, how many arguments, what it returns -/
def zOk (N : ZM) (n : Nat) : Prop := Cond.code N.1 N.2.1 N.2.2.1 N.2.2.2.1 ∈ zT ∧ Cond.initialized N.1.cls ∈ zT ∧ plainName N.1.cls = true ∧ (N.1.cls ≠ "java/lang/invoke/MethodHandle" ∧ N.1.cls ≠ "java/lang/invoke/VarHandle" ∧ (parseMethodDescriptor N.1.desc).map (fun d => d.parameters.length) = some n)
def zMl (own : String) (idx : Nat) (y : MethodName) : Prop := Cond.methodLink own idx y ∈ zT ∨ ∃ host, Cond.methodLinkNest own idx y host ∈ zNl
def zRm (M N : ZM) : Prop := N.2.2.2.2.1 + 1 ≤ M.2.2.2.2.1 ∧ 8 + (N.2.2.1 + 11) + N.2.2.2.2.2.1 ≤ M.2.2.2.2.2.1
def zNew (L : List (Option Value)) (S : List Value) (sh th sh' : AS) : Prop := th = sh ∨ (sh.length < th.length ∧ th.length ≤ sh'.length ∧ zsl sh ≤ zsl th ∧ zsl th ≤ zsl sh' ∧ (∀ b, Value.ref b ∈ S → b < sh.length ∨ 90000 ≤ b) ∧ ∀ b, some (Value.ref b) ∈ L → b < sh.length ∨ 90000 ≤ b)
theorem zNew.rf : zNew L S sh sh sh' := Or.inl rfl
theorem zcat {ro : Nat → Nat} (h : (S.map fun v => v.category).sum ≤ 8) : ((S.map (zv ro)).map fun v => v.category).sum ≤ 8 := by
  rw [List.map_map]
  rw [show S.map ((fun v => v.category) ∘ zv ro) = S.map (fun v => v.category) from List.map_congr_left (fun a _ => zv_cat ro a)]
  exact h
theorem zfit {J : AI} {th : AS} {R : Room} {cells slots : Nat} (hc : cells + (sh'.length - sh.length) ≤ R.cells) (hs : slots + (zsl sh' - zsl sh) ≤ R.slots) (hn : zNew L S sh th sh') : cells + (th.length - sh.length) ≤ R.cells ∧ slots + (zsl th - zsl sh) ≤ R.slots := by
  rcases hn with rfl | ⟨h1, h2, h3, h4, -, -⟩
  · simp; omega
  · omega
/-- an instance method called: of the own class, or of a nest mate -/
theorem R_callV {N : ZM} {idx n b k kn : Nat} {As : List Value} {J : AI} {G : AR} {th : AS} {u : Option Int32} (hN : ZR l D N 0 (zent N.2.2.1 (.ref b :: As)) [] I F sh u J G th) (hd : decode M.2.1 pc = .ok (.invokevirtual idx, 3)) (ho : zOk N n) (hm : zMl M.1.cls idx N.1) (hi : Cond.instanceMethod N.1 ∈ zT ∧ Cond.selects N.1.cls N.1 N.1 ∈ zT) (hrm : zRm M N) (hret : zRet N.2.2.2.1 u) (hcat : (As.all fun a => a.category == 1) = true) (hlen : As.length = n ∧ n + 1 ≤ N.2.2.1) (hb : sh[b]? = some (k, kn)) (hk : k < 13 ∧ zRn k = N.1.cls) (hst : (S.map fun v => v.category).sum ≤ 8) (hnew : zNew L S sh th sh')
    (kk : ZR l D M (pc + 3) L (u.toList.map Value.int ++ S) J G th v I' F' sh') : ZR l D M pc L (As.reverse ++ .ref b :: S) I F sh v I' F' sh' := by
  intro p e R s m args below meth c A H locs cells slots Q ro ga ls hX hZ hl hc hs hr
  have hM := Z_met (sz := H.size) (ro := ro) (ga := ga) ho.2.2.1 (As := .ref b :: As) (by rw [List.all_cons, hcat]; rfl) (by rw [List.length_cons]; omega) hret hN
  have he := zw_get (ro := ro) (ga := ga) (I := I) (F := F) hb
  rw [zc_o hk.1] at he
  have hrecv := va_recv (q := (zRn k, zTb k, zNf k)) hZ.2.2.2.1.1 hZ.1 (z_cl hk.1) he
  rw [hk.2] at hrecv
  have hfit := zfit (J := J) hc hs hnew
  have hpre : PreV s H N.1.cls (ro b) (zPc D ro ga I F sh H.size (.ref b :: As)) (As.map (zv ro)) := ⟨zPc_blind, hrecv, zPc_at hZ hX.2.2.2.2.2.1⟩
  have hstk : (As.reverse ++ .ref b :: S).map (zv ro) = (As.map (zv ro)).reverse ++ .ref (ro b) :: S.map (zv ro) := by
    rw [List.map_append, List.map_reverse]; rfl
  have hcode := ho.1
  have hRm : N.2.2.2.2.1 + 1 ≤ R.frames ∧ 8 + (N.2.2.1 + 11) + N.2.2.2.2.2.1 ≤ R.locals := ⟨Nat.le_trans hrm.1 hX.2.2.2.2.2.2.1, Nat.le_trans hrm.2 hX.2.2.2.2.2.2.2.1⟩
  refine Z_after (a := (Value.ref (ro b) :: As.map (zv ro)).toArray) hX hZ hl hc hs hr hnew ?_ kk
  rcases hm with hm | ⟨host, hm⟩
  · refine va_runV (n := n) (bytes := N.2.1) (maxL := N.2.2.1) (ret := N.2.2.2.1) (C := N.1.cls) (own := M.1.cls) (As := As.map (zv ro)) (rest := S.map (zv ro)) ⟨hX.1, hX.2.1, hX.2.2.1, hX.2.2.2.1, hX.2.2.2.2.1⟩ hM ⟨callB_of n hX.2.2.2.2.1 (z_goodIn hcode) rfl rfl rfl (hX.w ho.2.1) (hX.w hm) ho.2.2.2 hRm, hX.w hi.1, hX.w hi.2⟩ hpre rfl (by rw [List.length_map]; exact hlen.1) hl.1 hstk (lv_room (zcat hst)) hd hfit
  · refine va_runVN (n := n) (bytes := N.2.1) (maxL := N.2.2.1) (ret := N.2.2.2.1) (C := N.1.cls) (own := M.1.cls) (host := host) (As := As.map (zv ro)) (rest := S.map (zv ro)) ⟨hX.1, hX.2.1, hX.2.2.1, hX.2.2.2.1, hX.2.2.2.2.1⟩ hM ⟨va_cnB n hX.2.2.2.2.1 (z_goodIn hcode) rfl rfl rfl (hX.n hm) (hX.w ho.2.1) ho.2.2.2 hRm, hX.w hi.1, hX.w hi.2⟩ hpre rfl (by rw [List.length_map]; exact hlen.1) hl.1 hstk (lv_room (zcat hst)) hd hfit
/-- a static method called -/
theorem R_callS {N : ZM} {idx n : Nat} {As : List Value} {J : AI} {G : AR} {th : AS} {u : Option Int32} (hN : ZR l D N 0 (zent N.2.2.1 As) [] I F sh u J G th) (hd : decode M.2.1 pc = .ok (.invokestatic idx, 3)) (ho : zOk N n) (hm : zMl M.1.cls idx N.1) (hi : Cond.static N.1 ∈ zT) (hrm : zRm M N) (hret : zRet N.2.2.2.1 u) (hcat : (As.all fun a => a.category == 1) = true) (hlen : As.length = n ∧ n ≤ N.2.2.1) (hst : (S.map fun v => v.category).sum ≤ 8) (hnew : zNew L S sh th sh')
    (kk : ZR l D M (pc + 3) L (u.toList.map Value.int ++ S) J G th v I' F' sh') : ZR l D M pc L (As.reverse ++ S) I F sh v I' F' sh' := by
  intro p e R s m args below meth c A H locs cells slots Q ro ga ls hX hZ hl hc hs hr
  have hM := Z_met (sz := H.size) (ro := ro) (ga := ga) ho.2.2.1 (As := As) hcat (by omega) hret hN
  have hfit := zfit (J := J) hc hs hnew
  have hpre : PreS s H (zPc D ro ga I F sh H.size As) (As.map (zv ro)) := ⟨zPc_blind, zPc_at hZ hX.2.2.2.2.2.1⟩
  have hstk : (As.reverse ++ S).map (zv ro) = (As.map (zv ro)).reverse ++ S.map (zv ro) := by
    rw [List.map_append, List.map_reverse]
  have hcode := ho.1
  have hRm : N.2.2.2.2.1 + 1 ≤ R.frames ∧ 8 + (N.2.2.1 + 11) + N.2.2.2.2.2.1 ≤ R.locals := ⟨Nat.le_trans hrm.1 hX.2.2.2.2.2.2.1, Nat.le_trans hrm.2 hX.2.2.2.2.2.2.2.1⟩
  refine Z_after (a := (As.map (zv ro)).toArray) hX hZ hl hc hs hr hnew ?_ kk
  rcases hm with hm | ⟨host, hm⟩
  · refine va_runS (n := n) (bytes := N.2.1) (maxL := N.2.2.1) (ret := N.2.2.2.1) (own := M.1.cls) (As := As.map (zv ro)) (rest := S.map (zv ro)) ⟨hX.1, hX.2.1, hX.2.2.1, hX.2.2.2.1, hX.2.2.2.2.1⟩ hM ⟨callB_of n hX.2.2.2.2.1 (z_goodIn hcode) rfl rfl rfl (hX.w ho.2.1) (hX.w hm) ho.2.2.2 hRm, hX.w hi⟩ hpre rfl (by rw [List.length_map]; exact hlen.1) hl.1 hstk (lv_room (zcat hst)) hd hfit
  · refine va_runSN (n := n) (bytes := N.2.1) (maxL := N.2.2.1) (ret := N.2.2.2.1) (own := M.1.cls) (host := host) (As := As.map (zv ro)) (rest := S.map (zv ro)) ⟨hX.1, hX.2.1, hX.2.2.1, hX.2.2.2.1, hX.2.2.2.2.1⟩ hM ⟨va_cnB n hX.2.2.2.2.1 (z_goodIn hcode) rfl rfl rfl (hX.n hm) (hX.w ho.2.1) ho.2.2.2 hRm, hX.w hi, trivial⟩ hpre rfl (by rw [List.length_map]; exact hlen.1) hl.1 hstk (lv_room (zcat hst)) hd hfit
/-- a constructor called -/
theorem R_callI {N : ZM} {idx n b : Nat} {As : List Value} {J : AI} {G : AR} {th : AS} (hN : ZR l D N 0 (zent N.2.2.1 (.ref b :: As)) [] I F sh none J G th) (hd : decode M.2.1 pc = .ok (.invokespecial idx, 3)) (ho : zOk N n) (hm : zMl M.1.cls idx N.1) (hi : Cond.instanceMethod N.1 ∈ zT ∧ N.1.name = "<init>" ∧ N.2.2.2.1 = none) (hrm : zRm M N) (hcat : (As.all fun a => a.category == 1) = true) (hlen : As.length = n ∧ n + 1 ≤ N.2.2.1) (hst : (S.map fun v => v.category).sum ≤ 8) (hnew : zNew L S sh th sh')
    (kk : ZR l D M (pc + 3) L S J G th v I' F' sh') : ZR l D M pc L (As.reverse ++ .ref b :: S) I F sh v I' F' sh' := by
  intro p e R s m args below meth c A H locs cells slots Q ro ga ls hX hZ hl hc hs hr
  have hM := Z_met (sz := H.size) (ro := ro) (ga := ga) ho.2.2.1 (As := .ref b :: As) (by rw [List.all_cons, hcat]; rfl) (by rw [List.length_cons]; omega) (show zRet N.2.2.2.1 none from hi.2.2) hN
  have hfit := zfit (J := J) hc hs hnew
  have hpre : PreS s H (zPc D ro ga I F sh H.size (.ref b :: As)) (.ref (ro b) :: As.map (zv ro)) := ⟨zPc_blind, zPc_at (As := .ref b :: As) hZ hX.2.2.2.2.2.1⟩
  have hstk : (As.reverse ++ .ref b :: S).map (zv ro) = (As.map (zv ro)).reverse ++ .ref (ro b) :: S.map (zv ro) := by
    rw [List.map_append, List.map_reverse]; rfl
  have hcode := ho.1
  have hRm : N.2.2.2.2.1 + 1 ≤ R.frames ∧ 8 + (N.2.2.1 + 11) + N.2.2.2.2.2.1 ≤ R.locals := ⟨Nat.le_trans hrm.1 hX.2.2.2.2.2.2.1, Nat.le_trans hrm.2 hX.2.2.2.2.2.2.2.1⟩
  have hw2 : zws N = Cond.code N.1 N.2.1 N.2.2.1 none :: zT := by rw [← hi.2.2]
  refine Z_after (u := none) (a := (Value.ref (ro b) :: As.map (zv ro)).toArray) hX hZ hl hc hs hr hnew ?_ kk
  rcases hm with hm | ⟨host, hm⟩
  · refine va_runI (n := n) (bytes := N.2.1) (maxL := N.2.2.1) (own := M.1.cls) (As := As.map (zv ro)) (rest := S.map (zv ro)) ⟨hX.1, hX.2.1, hX.2.2.1, hX.2.2.2.1, hX.2.2.2.2.1⟩ hM ⟨callB_of n hX.2.2.2.2.1 (z_goodIn hcode) hw2 rfl rfl (hX.w ho.2.1) (hX.w hm) ho.2.2.2 hRm, hi.2.1, hX.w hi.1⟩ hpre rfl (by rw [List.length_map]; exact hlen.1) hl.1 hstk (lv_room (zcat hst)) hd hfit
  · refine va_runIN (n := n) (bytes := N.2.1) (maxL := N.2.2.1) (own := M.1.cls) (host := host) (As := As.map (zv ro)) (rest := S.map (zv ro)) ⟨hX.1, hX.2.1, hX.2.2.1, hX.2.2.2.1, hX.2.2.2.2.1⟩ hM ⟨va_cnB n hX.2.2.2.2.1 (z_goodIn hcode) hw2 rfl rfl (hX.n hm) (hX.w ho.2.1) ho.2.2.2 hRm, hi.2.1, hX.w hi.1⟩ hpre rfl (by rw [List.length_map]; exact hlen.1) hl.1 hstk (lv_room (zcat hst)) hd hfit
end ZCall
