/-! a row of rows, made at one stroke -/
def zgO (h : Nat) (cA : ClassId) (N i : Nat) : Cell := arrV cA N (fun j => if j < i then .ref (h + 1 + j) else .null)
def zgI (cI : ClassId) (K : Nat) : Cell := arrV cI K (fun _ => .int 0)
/-- behind i of the N rows -/
def zgT (T : State) (cA cI : ClassId) (N K : Nat) : Nat → State
  | 0 => T.pushCell (zgO T.heap.size cA N 0)
  | i + 1 => ((zgT T cA cI N K i).pushCell (zgI cI K)).setCell T.heap.size (zgO T.heap.size cA N (i + 1))
theorem zgO_s (h : Nat) (cA : ClassId) (N i : Nat) : (zgO h cA N i).setSlot i (.ref (h + 1 + i)) = zgO h cA N (i + 1) := by
  unfold zgO
  rw [arrV_store]
  congr 1
  funext j
  show (if j = i then Value.ref (h + 1 + i) else if j < i then Value.ref (h + 1 + j) else Value.null) = if j < i + 1 then Value.ref (h + 1 + j) else Value.null
  by_cases e : j = i
  · subst e
    rw [if_pos rfl, if_pos (by omega)]
  · rw [if_neg e]
    by_cases h1 : j < i
    · rw [if_pos h1, if_pos (by omega)]
    · rw [if_neg h1, if_neg (by omega)]
section ZGrid
variable {T : State} {cA cI : ClassId} {N K : Nat}
theorem zgT_sz : ∀ i, (zgT T cA cI N K i).heap.size = T.heap.size + 1 + i
  | 0 => by simp [zgT]
  | i + 1 => by
    have := zgT_sz i
    simp [zgT, State.setCell, this]
    omega
theorem zgT_vm : ∀ i, (zgT T cA cI N K i).vm = T.vm
  | 0 => rfl
  | i + 1 => by
    have := zgT_vm i
    simp [zgT, this]
theorem zgT_su : ∀ i, (zgT T cA cI N K i).slotsUsed = T.slotsUsed + N + i * K
  | 0 => by simp [zgT, zgO, arrV_size]
  | i + 1 => by
    have := zgT_su i
    simp [zgT, this, zgI, arrV_size, Nat.succ_mul]
    omega
theorem zgT_o : ∀ i, (zgT T cA cI N K i).heap[T.heap.size]? = some (zgO T.heap.size cA N i)
  | 0 => by simp [zgT]
  | i + 1 => by
    have h1 := zgT_o i
    have h2 := zgT_sz (T := T) (cA := cA) (cI := cI) (N := N) (K := K) i
    have h3 : ((zgT T cA cI N K i).pushCell (zgI cI K)).heap[T.heap.size]? = some (zgO T.heap.size cA N i) := by
      rw [State.heap_pushCell_of_lt _ _ (show T.heap.size < (zgT T cA cI N K i).heap.size by omega)]; exact h1
    exact State.heap_setCell_self h3
theorem zgT_old {a : Nat} (ha : a < T.heap.size) : ∀ i, (zgT T cA cI N K i).heap[a]? = T.heap[a]?
  | 0 => State.heap_pushCell_of_lt _ _ ha
  | i + 1 => by
    have h2 := zgT_sz (T := T) (cA := cA) (cI := cI) (N := N) (K := K) i
    show (((zgT T cA cI N K i).pushCell (zgI cI K)).setCell T.heap.size _).heap[a]? = _
    rw [State.heap_setCell_other (Nat.ne_of_gt ha), State.heap_pushCell_of_lt _ _ (show a < (zgT T cA cI N K i).heap.size by omega)]
    exact zgT_old ha i
theorem zgT_in : ∀ i j, j < i → (zgT T cA cI N K i).heap[T.heap.size + 1 + j]? = some (zgI cI K)
  | 0, _, h => absurd h (Nat.not_lt_zero _)
  | i + 1, j, h => by
    have h2 := zgT_sz (T := T) (cA := cA) (cI := cI) (N := N) (K := K) i
    show (((zgT T cA cI N K i).pushCell (zgI cI K)).setCell T.heap.size _).heap[T.heap.size + 1 + j]? = _
    rw [State.heap_setCell_other (show T.heap.size ≠ T.heap.size + 1 + j by omega)]
    by_cases hj : j < i
    · rw [State.heap_pushCell_of_lt _ _ (show T.heap.size + 1 + j < (zgT T cA cI N K i).heap.size by omega)]
      exact zgT_in i j hj
    · rw [show T.heap.size + 1 + j = (zgT T cA cI N K i).heap.size by omega]
      exact State.heap_pushCell_size _ _
theorem zgT_top (f : JFrame) : ∀ i, zgT (T.setTop f) cA cI N K i = (zgT T cA cI N K i).setTop f
  | 0 => rfl
  | i + 1 => by
    have := zgT_top f i
    simp only [zgT, this, State.heap_setTop, State.pushCell_setTop, State.setCell_setTop]
theorem zgT_stand {p : Program} {l : Launch} {e : Env} {R : Room} {s : State} {m : MethodId} {args : Array Value} {below : List Frame} {meth : Method} {c : Code} {locs : List Loc} {cells slots : Nat} (X : Stand p l e R s m args below meth c T locs cells slots) : ∀ i, Stand p l e R s m args below meth c (zgT T cA cI N K i) (locs ++ (List.range i).map (fun j => (⟨T.heap.size, j⟩ : Loc))) (cells + 1 + i) (slots + N + i * K)
  | 0 => by
    have h := X.pushed (zgO T.heap.size cA N 0)
    unfold zgO at h
    rw [arrV_size] at h
    simpa [zgT, zgO] using h
  | i + 1 => by
    have Xi := zgT_stand X i
    have h2 := zgT_sz (T := T) (cA := cA) (cI := cI) (N := N) (K := K) i
    have h3 : ((zgT T cA cI N K i).pushCell (zgI cI K)).heap[T.heap.size]? = some (zgO T.heap.size cA N i) := by
      rw [State.heap_pushCell_of_lt _ _ (show T.heap.size < (zgT T cA cI N K i).heap.size by omega)]; exact zgT_o i
    have h4 := (Xi.pushed (zgI cI K)).stored h3 i (.ref (T.heap.size + 1 + i))
    rw [zgO_s, show (zgI cI K).slots.size = K from arrV_size _ _ _] at h4
    have e1 : locs ++ (List.range (i + 1)).map (fun j => (⟨T.heap.size, j⟩ : Loc)) = locs ++ (List.range i).map (fun j => (⟨T.heap.size, j⟩ : Loc)) ++ [⟨T.heap.size, i⟩] := by
      rw [List.range_succ, List.map_append, List.append_assoc]; rfl
    have e2 : slots + N + (i + 1) * K = slots + N + i * K + K := by rw [Nat.succ_mul]; omega
    rw [e1, e2]
    exact h4
end ZGrid
section ZGridW
variable {E : CtlPost} {e : Env} {d : Bool} {acts : List Action} {s : State}
/-- rows of ints: the machine's own loop -/
theorem zg_make {cA cI cc : ClassId} {kA kI : Class} {N K : Nat} (hN : N ≤ 1000) (hK : K ≤ 1000) (hkA : s.vm.classes[cA]? = some kA) (hkindA : kA.kind = .array cI (.array .int)) (hkI : s.vm.classes[cI]? = some kI) (hkindI : kI.kind = .array cc .int)
    (hl : 1000 ≤ e.platform.arrayLengthLimit) (hh : 536870912 ≤ e.platform.maxHeapBytes) (hc : s.heap.size + (1 + N) ≤ e.platform.maxCells) (hs : s.slotsUsed + (N + N * K) ≤ e.platform.maxSlots)
    {Q : Addr → Pre} (hq : ∀ d' acts', Q s.heap.size d' acts' (zgT s cA cI N K N)) : wp (multianewarray.make cA [nI N, nI K]) Q E e d acts s := by
  have hn0 : ¬ nI N < 0 := nI_pos (by omega)
  have hk0 : ¬ nI K < 0 := nI_pos (by omega)
  have en : (nI N).toNatClampNeg = N := nI_clamp (by omega)
  have ek : (nI K).toNatClampNeg = K := nI_clamp (by omega)
  have hfind : ([nI K].find? (· < 0)) = none := by simp [hk0]
  rw [multianewarray.make]
  simp only [wp_bind', W.ite, hn0, if_false, wp_pure', W.theClass, hkA, hkindA, Option.some.injEq, exists_eq_left', en]
  refine W.newArray_of hkA hkindA (by omega) (by show ¬ N * 4 > _; omega) (by omega) (by have := Nat.zero_le (N * K); omega) rfl (fun acts1 => ?_)
  rw [show ({ cls := cA, slots := Array.replicate N Value.null } : Cell) = zgO s.heap.size cA N 0 from (arrV_new cA N .null).trans (by unfold zgO; congr 1)]
  simp only [hfind]
  rw [ite_self, wp_bind', Std.Legacy.Range.forIn_eq_forIn_range']
  rw [show ([:N] : Std.Legacy.Range).size = N by simp [Std.Legacy.Range.size]]
  show wp (forIn (List.range' 0 N 1) PUnit.unit _) _ E e d acts1 _
  refine wp_forIn_inv (fun rest s' => ∃ i, i ≤ N ∧ rest = List.range' i (N - i) ∧ s' = zgT s cA cI N K i) _ _ ⟨0, Nat.zero_le _, rfl, rfl⟩ ?_ ?_
  · rintro x rest s' d' acts' Q' ⟨i, hi, hr, rfl⟩ hnext
    have hlt : i < N := by
      rcases Nat.lt_or_ge i N with h | h
      · exact h
      · rw [show N - i = 0 by omega] at hr; simp at hr
    rw [show N - i = (N - (i + 1)) + 1 by omega, List.range'_succ] at hr
    obtain ⟨rfl, hr2⟩ := List.cons.inj hr
    have f1 := zgT_sz (T := s) (cA := cA) (cI := cI) (N := N) (K := K) x
    have f2 := zgT_vm (T := s) (cA := cA) (cI := cI) (N := N) (K := K) x
    have f3 := zgT_su (T := s) (cA := cA) (cI := cI) (N := N) (K := K) x
    have hmul : x * K + K ≤ N * K := by
      have := Nat.mul_le_mul_right K (show x + 1 ≤ N from hlt)
      rw [Nat.succ_mul] at this; exact this
    have hkI' : (zgT s cA cI N K x).vm.classes[cI]? = some kI := by rw [f2]; exact hkI
    simp only [wp_bind']
    rw [multianewarray.make]
    simp only [wp_bind', W.ite, hk0, if_false, wp_pure', W.theClass, hkI', hkindI, Option.some.injEq, exists_eq_left', ek]
    refine W.newArray_of hkI' hkindI (by omega) (by show ¬ K * 4 > _; omega) (by omega) (by omega) rfl (fun acts2 => ?_)
    rw [show ({ cls := cI, slots := Array.replicate K (defaultValue .int) } : Cell) = zgI cI K from arrV_new cI K (.int 0)]
    have h3 : ((zgT s cA cI N K x).pushCell (zgI cI K)).heap[s.heap.size]? = some (zgO s.heap.size cA N x) := by
      rw [State.heap_pushCell_of_lt _ _ (show s.heap.size < (zgT s cA cI N K x).heap.size by omega)]; exact zgT_o x
    simp only [wp_bind', W.writeLoc, wp_pure']
    refine ⟨zgO s.heap.size cA N x, h3, by unfold zgO arrV; simp, by unfold zgO; rw [arrV_size]; exact hlt, ?_, hnext _ _ _ ⟨x + 1, hlt, hr2, ?_⟩⟩
    · have hkA' : ((zgT s cA cI N K x).pushCell (zgI cI K)).vm.classes[cA]? = some kA := by show (zgT s cA cI N K x).vm.classes[cA]? = _; rw [f2]; exact hkA
      show State.fitsSlot _ cA .none x _ = true
      simp [State.fitsSlot, State.slotType?, f2, hkA, hkindA, fits]
    · rw [f1, zgO_s]; rfl
  · rintro s' d' acts' ⟨i, hi, hr, rfl⟩
    have hiN : i = N := by
      rcases Nat.lt_or_ge i N with h | h
      · rw [show N - i = (N - (i + 1)) + 1 by omega, List.range'_succ] at hr; cases hr
      · omega
    subst hiN
    simp only [wp_pure']
    exact hq _ _
end ZGridW
section ZGridR
variable {p : Program} {l : Launch} {e : Env} {R : Room} {s : State} {m : MethodId} {args : Array Value} {below : List Frame} {meth : Method} {c : Code} {H : Heap} {locs : List Loc} {cells slots : Nat} {Q : State → Prop}
theorem zg_row {cc : ByteArray} {pc : Nat} {ls : Array Slot} {rest : List Value} (hexec : p.tables.exec = Jvm.exec) (hb : c.code = cc) {own : String} {idx N K : Nat} (hN : N ≤ 1000) (hK : K ≤ 1000) (hown : s.vm.findClass own = some m.cls) (hclink : (Cond.classLink own idx ("[" ++ (FieldType.array .int).toString)).before args s = true) (hover : (Cond.arrayOver (.array .int)).before args s = true) (harr : (Cond.arrayClass .int).before args s = true)
    (hcells : cells + (1 + N) ≤ R.cells) (hslots : slots + (N + N * K) ≤ R.slots) (hdg : decode cc pc = .ok (.multianewarray idx 2, 4))
    (kk : ∀ (cA cI cI2 : ClassId) (kA kI : Class) (H1 : Heap) (locs1 : List Loc), s.vm.classes[cA]? = some kA → kA.kind = .array cI (.array .int) → s.vm.classes[cI]? = some kI → kI.kind = .array cI2 .int → s.vm.findClass ("[" ++ (FieldType.array .int).toString) = some cA → s.vm.findClass ("[" ++ FieldType.int.toString) = some cI →
      H1.size = H.size + 1 + N → (∀ q, q < H.size → H1[q]? = H[q]?) → H1[H.size]? = some (zgO H.size cA N N) → (∀ j, j < N → H1[H.size + 1 + j]? = some (zgI cI K)) → (∀ q ∈ locs1, q ∈ locs ∨ q.base = H.size) →
      W p l e R s m args below meth c H1 locs1 (cells + (1 + N)) (slots + (N + N * K)) Q (F0 m (pc + 4) ls (.ref H.size :: rest))) : W p l e R s m args below meth c H locs cells slots Q (F0 m pc ls (.int (nI K) :: .int (nI N) :: rest)) := by
  intro T hT X
  subst hT hb
  have hpl : e.platform.magicAccessors = ({} : Platform).magicAccessors := by rw [X.admits.platform]
  obtain ⟨cI, cA, kA, hcI, -, hkA, hkindA, hnameA⟩ := arrayOverA_spec hover
  obtain ⟨cI', kI, cI2, hcI', hkI, hkindI⟩ := Cond.arrayClass_spec harr
  have ecI : cI' = cI := Option.some.inj (hcI'.symm.trans hcI)
  subst ecI
  obtain ⟨c0, hfc0, hcl⟩ := Cond.classLink_spec hown hclink e.platform hpl
  cases hnameA.symm.trans hfc0
  obtain ⟨hg₁, hwarm₁, -⟩ := State.classEntry (e := e) X.warmed hcl
  generalize T.vm.noted m.cls idx (.cls cA) = vm₁ at hg₁ hwarm₁
  obtain ⟨kA₁, hkA₁, heA⟩ := hwarm₁.alike.2.2 _ _ hkA
  obtain ⟨kI₁, hkI₁, heI⟩ := hwarm₁.alike.2.2 _ _ hkI
  have hkindA₁ : kA₁.kind = .array cI' (.array .int) := by rw [heA]; exact hkindA
  have hkindI₁ : kI₁.kind = .array cI2 .int := by rw [heI]; exact hkindI
  have X₁ := X.noted hwarm₁
  obtain ⟨hr1, hr2⟩ := X.roomAbove hcells hslots
  have X₂ := zgT_stand (cA := cA) (cI := cI') (N := N) (K := K) X₁ N
  rw [show cells + 1 + N = cells + (1 + N) by omega, show slots + N + N * K = slots + (N + N * K) by omega] at X₂
  obtain ⟨t, a1, b1⟩ := kk cA cI' cI2 kA kI (zgT (T.setVm vm₁) cA cI' N K N).heap _ hkA hkindA hkI hkindI hnameA hcI' (zgT_sz (T := T.setVm vm₁) N) (fun q hq => zgT_old (T := T.setVm vm₁) hq N) (zgT_o (T := T.setVm vm₁) N) (fun j hj => zgT_in (T := T.setVm vm₁) N j hj) (fun q hq => by
    rcases List.mem_append.mp hq with h | h
    · exact Or.inl h
    · obtain ⟨j, -, rfl⟩ := List.mem_map.mp h
      exact Or.inr rfl) _ rfl X₂
  refine ⟨t, ?_, b1⟩
  jvm_step X.here [hexec, hdg]
  simp only [multianewarray.sem, wp_bind', W.resolveClassAt_links (State.method?_setTop (F0 m pc ls (.int (nI K) :: .int (nI N) :: rest)) X.here.top) hg₁]
  rw [W.popN, if_neg (by decide)]
  refine ⟨F0 m pc ls (.int (nI K) :: .int (nI N) :: rest), State.topJava?_setTop' (s := T.setVm vm₁) _ X.here.top, [.int (nI N), .int (nI K)], rest, rfl, rfl, ?_⟩
  simp only [List.mapM_cons, List.mapM_nil, wp_bind', wp_pure']
  refine zg_make hN hK hkA₁ hkindA₁ hkI₁ hkindI₁ (by rw [Launch.admits_arrayLengthLimit X.admits]; omega) (by rw [Launch.admits_maxHeapBytes X.admits]; omega) (by show T.heap.size + _ ≤ _; omega) (by show T.slotsUsed + _ ≤ _; omega) (fun d' acts' => ?_)
  have eS : ((T.setTop (F0 m pc ls (.int (nI K) :: .int (nI N) :: rest))).setVm vm₁).setTop { (F0 m pc ls (.int (nI K) :: .int (nI N) :: rest)) with stack := rest } = (T.setVm vm₁).setTop { (F0 m pc ls (.int (nI K) :: .int (nI N) :: rest)) with stack := rest } := by
    show ((T.setVm vm₁).setTop _).setTop _ = _
    rw [State.setTop_setTop]
  rw [eS, zgT_top]
  simp only [wp_bind', W.mark, W.pushRef, State.topJava?_setTop' _ X₂.here.top, Option.some.injEq, exists_eq_left', State.setTop_setTop, State.heap_setTop]
  intro acts9
  simp [jvm, X₂.here.top]
  exact a1
end ZGridR
section YMulti
variable {Y : YP} {l : Launch} {D : va_G} {M : ZM} {pc : Nat} {L : List (Option Value)} {S : List Value} {I : AI} {F : AR} {sh : AS} {v : Option Int32} {I' : AI} {F' : AR} {sh' : AS}
/-- the rows behind a new row of rows -/
def zFg (F : AR) (a N : Nat) : AR := va_up F a (fun j => if j < N then some (a + 1 + j) else none)
theorem Y_multi {idx : Nat} {n k : Int32} (N K : Nat) (hd : decode M.2.1 pc = .ok (.multianewarray idx 2, 4)) (hcl : Cond.classLink M.1.cls idx ("[" ++ (FieldType.array .int).toString) ∈ zT) (hov : Cond.arrayOver (.array .int) ∈ zNl) (har : Cond.arrayClass .int ∈ zT) (hn : n = nI N) (hk : k = nI K) (hN : N ≤ 1000) (hK : K ≤ 1000) (hI : ∀ a k, sh.length ≤ a → I a k = 0) (h90 : sh.length + 1 + N ≤ 90000) (hroom : sh.length + (1 + N) ≤ sh'.length ∧ zsl sh + (N + N * K) ≤ zsl sh') (hS : ∀ b, Value.ref b ∈ S → b < sh.length ∨ 90000 ≤ b) (hL : ∀ b, some (Value.ref b) ∈ L → b < sh.length ∨ 90000 ≤ b)
    (kk : ZY Y l D M (pc + 4) L (.ref sh.length :: S) I (zFg F sh.length N) (sh ++ (18, N) :: List.replicate N (15, K)) v I' F' sh') : ZY Y l D M pc L (.int k :: .int n :: S) I F sh v I' F' sh' := by
  have hxl : ((18, N) :: List.replicate N (15, K) : AS).length = 1 + N := by rw [List.length_cons, List.length_replicate]; omega
  have hxs : zsl ((18, N) :: List.replicate N (15, K)) = N + N * K := by
    have h0 : ∀ n, zsl (List.replicate n (15, K)) = n * K := by
      intro n
      induction n with
      | zero => rw [Nat.zero_mul]; rfl
      | succ n ih =>
        rw [List.replicate_succ, Nat.succ_mul, ← ih]
        show K + zsl _ = _
        omega
    show N + zsl (List.replicate N (15, K)) = _
    rw [h0]
  refine Y_grow ((18, N) :: List.replicate N (15, K)) (pc2 := pc + 4) (F2 := zFg F sh.length N) (by rw [hxl]; omega) (Nat.zero_lt_succ _) (by rw [hxl, hxs]; exact hroom) hS hL (fun a ha => if_neg (by omega)) ?_ ?_ kk
  · intro hw a b q hq
    rw [hxl]
    unfold zFg va_up at hq
    by_cases e1 : a = sh.length
    · rw [if_pos e1] at hq
      by_cases e2 : b < N
      · rw [if_pos e2] at hq; cases hq; omega
      · rw [if_neg e2] at hq; cases hq
    · rw [if_neg e1] at hq
      have := hw a b q hq
      omega
  intro p e R s m args below meth c A H locs cells slots Q ro ga ls hX hZ hcc hss k9
  rw [hxl] at hcc
  rw [hxs] at hss
  subst hn hk
  refine zg_row (own := M.1.cls) (N := N) (K := K) hX.1 hX.2.1 hN hK hX.2.2.2.1 (hX.w hcl) (hX.n hov) (hX.w har) hcc hss hd (fun cA cI cI2 kA kI H1 locs1 hkA hkindA hkI hkindI hnA hnI hz ho h0 hj hlo => ?_)
  have hAr : ArrOfT s cA (.array .int) := fun n z => ⟨fun k h => (by cases h), kA, hkA, cI, hkindA⟩
  have hIr : ArrOfT s cI .int := fun n z => ⟨fun k h => (by cases h), kI, hkI, cI2, hkindI⟩
  have hnew : ∀ i, i < 1 + N → zc (zgr sh.length (1 + N) (fun i => H.size + i) ro) (zgr sh.length (1 + N) (fun i => if i = 0 then cA else cI) ga) I (zFg F sh.length N) (((18, N) :: List.replicate N (15, K) : AS).getD i (0, 0)) (sh.length + i) = if i = 0 then .inl (cA, N, .inr (.inr (.inr (.inr (fun j => if j < N then some (H.size + 1 + j) else none))))) else .inl (cI, K, .inl (fun _ => 0)) := by
    intro i hi
    cases i with
    | zero =>
      show zc _ _ _ _ (18, N) sh.length = _
      rw [if_pos rfl, zc_r (by decide), show zgr sh.length (1 + N) (fun i => if i = 0 then cA else cI) ga sh.length = cA from zgr_at (i := 0) hi]
      congr 7
      funext j
      unfold zFg
      rw [va_up_s]
      by_cases e : j < N
      · rw [if_pos e, if_pos e]
        show some (zgr sh.length (1 + N) (fun i => H.size + i) ro (sh.length + 1 + j)) = _
        rw [show sh.length + 1 + j = sh.length + (1 + j) by omega, zgr_at (by omega)]
        rw [show H.size + (1 + j) = H.size + 1 + j by omega]
      · rw [if_neg e, if_neg e]; rfl
    | succ i =>
      have e1 : ((18, N) :: List.replicate N (15, K) : AS).getD (i + 1) (0, 0) = (15, K) := by
        rw [List.getD_eq_getElem?_getD, List.getElem?_cons_succ, List.getElem?_replicate, if_pos (by omega)]; rfl
      rw [e1, if_neg (by omega), zc_i (by decide) (by decide), zgr_at (by omega), if_neg (by omega), show I (sh.length + (i + 1)) = (fun _ => 0) from funext fun k => hI _ k (by omega)]
  have hget : ∀ i x, (zNW ro ga I (zFg F sh.length N) sh.length ((18, N) :: List.replicate N (15, K)) (fun i => H.size + i) (fun i => if i = 0 then cA else cI))[i]? = some x → i < 1 + N ∧ x = (H.size + i, if i = 0 then .inl (cA, N, .inr (.inr (.inr (.inr (fun j => if j < N then some (H.size + 1 + j) else none))))) else .inl (cI, K, .inl (fun _ => 0))) := by
    intro i x hx
    have hi : i < 1 + N := by
      have := (List.getElem?_eq_some_iff.mp hx).1
      unfold zNW at this
      rw [List.length_map, List.length_range, hxl] at this
      exact this
    refine ⟨hi, ?_⟩
    unfold zNW at hx
    rw [hxl, List.getElem?_map, List.getElem?_range hi] at hx
    have := Option.some.inj hx
    rw [← this]
    show (H.size + i, _) = _
    rw [hnew i hi]
  have hk : ∀ (k : Nat) (x : Nat × va_E), (zw ro ga I F sh)[k]? = some x → H1[x.1]? = H[x.1]? := fun k x hx => ho x.1 ((hZ.1 k x hx).lt)
  have hP1 : va_P D vwCl (zw ro ga I F sh ++ zNW ro ga I (zFg F sh.length N) sh.length ((18, N) :: List.replicate N (15, K)) (fun i => H.size + i) (fun i => if i = 0 then cA else cI)) H1 := by
    refine (hZ.1.kept hk).app (fun i x hx => ?_)
    obtain ⟨hi, rfl⟩ := hget i x hx
    cases i with
    | zero =>
      show H1[H.size]? = some (vp_cell cA (N, .inr (.inr (.inr (.inr (fun j => if j < N then some (H.size + 1 + j) else none))))))
      rw [h0, vp_cell_q]
      unfold zgO
      congr 2
      funext j
      by_cases e : j < N
      · rw [if_pos e, if_pos e]; rfl
      · rw [if_neg e, if_neg e]; rfl
    | succ i =>
      rw [if_neg (by omega)]
      show H1[H.size + (i + 1)]? = some (vp_cell cI (K, .inl (fun _ => 0)))
      rw [show H.size + (i + 1) = H.size + 1 + i by omega, hj i (by omega)]
      rfl
  have hD1 : va_D A (zw ro ga I F sh ++ zNW ro ga I (zFg F sh.length N) sh.length ((18, N) :: List.replicate N (15, K)) (fun i => H.size + i) (fun i => if i = 0 then cA else cI)) := by
    have hof : ∀ (i : Nat) (x : Nat × va_E), (zw ro ga I F sh ++ zNW ro ga I (zFg F sh.length N) sh.length ((18, N) :: List.replicate N (15, K)) (fun i => H.size + i) (fun i => if i = 0 then cA else cI))[i]? = some x → ((zw ro ga I F sh)[i]? = some x ∧ x.1 < H.size) ∨ (sh.length ≤ i ∧ x.1 = H.size + (i - sh.length)) := by
      intro i x hx
      by_cases h1 : i < sh.length
      · rw [List.getElem?_append_left (by rw [zw_len]; exact h1)] at hx
        exact Or.inl ⟨hx, (hZ.1 i x hx).lt⟩
      · rw [List.getElem?_append_right (by rw [zw_len]; omega), zw_len] at hx
        obtain ⟨hi, rfl⟩ := hget _ x hx
        exact Or.inr ⟨by omega, rfl⟩
    refine ⟨fun i j x y hx hy hxy => ?_, fun i x hx => ?_⟩
    · rcases hof i x hx with ⟨h1, h2⟩ | ⟨h1, h2⟩
      · rcases hof j y hy with ⟨h3, h4⟩ | ⟨h3, h4⟩
        · exact hZ.2.1.1 i j x y h1 h3 hxy
        · omega
      · rcases hof j y hy with ⟨h3, h4⟩ | ⟨h3, h4⟩
        · omega
        · omega
    · rcases hof i x hx with ⟨h1, h2⟩ | ⟨h1, h2⟩
      · exact hZ.2.1.2 i x h1
      · exact hX.2.2.2.2.2.2.2.2.1 _ (by have := hZ.2.2.1.1; omega)
  have hS1 : va_S A s.heap H1 locs1 := ⟨Nat.le_trans hZ.2.2.1.1 (by omega), fun x h1 h2 => (ho x (Nat.lt_of_lt_of_le h1 hZ.2.2.1.1)).trans (hZ.2.2.1.2.1 x h1 h2), fun q hq => by
    rcases hlo q hq with h | h
    · exact hZ.2.2.1.2.2 q h
    · rw [h]; exact hX.2.2.2.2.2.2.2.2.1 _ hZ.2.2.1.1⟩
  have K9 := k9 (fun i => H.size + i) (fun i => if i = 0 then cA else cI) H1 locs1 hP1 hD1 hS1 (fun i x hx hk => by
    have hi : i < 1 + N := by
      have := (List.getElem?_eq_some_iff.mp hx).1
      rw [hxl] at this
      exact this
    cases i with
    | zero =>
      cases hx
      refine ⟨hZ.2.2.2.1.1.1, fun k q hq => ?_⟩
      have hz0 : k < 1 := (List.getElem?_eq_some_iff.mp hq).1
      rw [show k = 0 by omega] at hq
      cases hq
      exact ⟨hAr, hnA⟩
    | succ i =>
      rw [List.getElem?_cons_succ, List.getElem?_replicate, if_pos (by omega)] at hx
      cases hx
      refine ⟨hZ.2.2.2.1.1.1, fun k q hq => ?_⟩
      have hz0 : k < 1 := (List.getElem?_eq_some_iff.mp hq).1
      rw [show k = 0 by omega] at hq
      cases hq
      rw [if_neg (by omega)]
      exact ⟨hIr, hnI⟩)
  rw [hxl, hxs] at K9
  exact K9
theorem C_multi {shf : AS} {Post : Option Int32 → AI → AR → Prop} {idx : Nat} {n k : Int32} (N K : Nat) (hd : decode M.2.1 pc = .ok (.multianewarray idx 2, 4)) (hcl : Cond.classLink M.1.cls idx ("[" ++ (FieldType.array .int).toString) ∈ zT) (hov : Cond.arrayOver (.array .int) ∈ zNl) (har : Cond.arrayClass .int ∈ zT) (hn : n = nI N) (hk : k = nI K) (hN : N ≤ 1000) (hK : K ≤ 1000) (hI : ∀ a k, sh.length ≤ a → I a k = 0) (h90 : sh.length + 1 + N ≤ 90000) (hroom : sh.length + (1 + N) ≤ shf.length ∧ zsl sh + (N + N * K) ≤ zsl shf) (hS : ∀ b, Value.ref b ∈ S → b < sh.length ∨ 90000 ≤ b) (hL : ∀ b, some (Value.ref b) ∈ L → b < sh.length ∨ 90000 ≤ b)
    (kk : ZC Y l D M shf (pc + 4) L (.ref sh.length :: S) I (zFg F sh.length N) (sh ++ (18, N) :: List.replicate N (15, K)) Post) : ZC Y l D M shf pc L (.int k :: .int n :: S) I F sh Post := by
  obtain ⟨v9, I9, F9, h9, hp9⟩ := kk
  exact ⟨v9, I9, F9, Y_multi N K hd hcl hov har hn hk hN hK hI h90 hroom hS hL h9, hp9⟩
end YMulti
