section CRows
variable {Y : YP} {l : Launch} {D : va_G} {M : ZM} {shf : AS} {pc : Nat} {L : List (Option Value)} {S : List Value} {I : AI} {F : AR} {sh : AS} {Post : Option Int32 → AI → AR → Prop}
theorem C_iret {x : Int32} (hd : decode M.2.1 pc = .ok (.ireturn, 1)) (h : Post (some x) I F) : ZC Y l D M shf pc L [.int x] I F shf Post := ⟨_, _, _, Y_iret hd, h⟩
theorem C_ret (hd : decode M.2.1 pc = .ok (.return_, 1)) (h : Post none I F) : ZC Y l D M shf pc L [] I F shf Post := ⟨_, _, _, Y_ret hd, h⟩
theorem C_top {x y : Int32} (h : x = y) (k : ZC Y l D M shf pc L (.int y :: S) I F sh Post) : ZC Y l D M shf pc L (.int x :: S) I F sh Post := h ▸ k
theorem C_mem {J : AI} (h : I = J) (k : ZC Y l D M shf pc L S J F sh Post) : ZC Y l D M shf pc L S I F sh Post := h ▸ k
theorem C_fld {G : AR} (h : F = G) (k : ZC Y l D M shf pc L S I G sh Post) : ZC Y l D M shf pc L S I F sh Post := h ▸ k
theorem C_shp {sh2 : AS} (h : sh = sh2) (k : ZC Y l D M shf pc L S I F sh2 Post) : ZC Y l D M shf pc L S I F sh Post := h ▸ k
theorem ZP.c (h : ZP l D M pc L S I F Post) : ∃ (v : Option Int32) (I' : AI) (F' : AR), ZY Y l D M pc L S I F SH v I' F' SH ∧ Post v I' F' := by
  obtain ⟨v, I', F', h, hp⟩ := h
  exact ⟨v, I', F', h.y, hp⟩
theorem ZP_o.c (h : ZP_o l D M pc L S I F Post) : ∃ (v : Option Int32) (I' : AI) (F' : AR), ZY Y l D M pc L S I F SH_o v I' F' SH_o ∧ Post v I' F' := by
  obtain ⟨v, I', F', h, hp⟩ := h
  exact ⟨v, I', F', h.y, hp⟩
theorem C_iadd {x y : Int32} (hd : decode M.2.1 pc = .ok (.iadd, 1))  (k : ZC Y l D M shf (pc + 1) L (.int (x + y) :: S) I F sh Post) : ZC Y l D M shf (pc) L (.int y :: .int x :: S) I F sh Post := by
  obtain ⟨v9, I9, F9, h9, hp9⟩ := k
  exact ⟨v9, I9, F9, Y_iadd hd h9, hp9⟩
theorem C_isub {x y : Int32} (hd : decode M.2.1 pc = .ok (.isub, 1))  (k : ZC Y l D M shf (pc + 1) L (.int (x - y) :: S) I F sh Post) : ZC Y l D M shf (pc) L (.int y :: .int x :: S) I F sh Post := by
  obtain ⟨v9, I9, F9, h9, hp9⟩ := k
  exact ⟨v9, I9, F9, Y_isub hd h9, hp9⟩
theorem C_iand {x y : Int32} (hd : decode M.2.1 pc = .ok (.iand, 1))  (k : ZC Y l D M shf (pc + 1) L (.int (x &&& y) :: S) I F sh Post) : ZC Y l D M shf (pc) L (.int y :: .int x :: S) I F sh Post := by
  obtain ⟨v9, I9, F9, h9, hp9⟩ := k
  exact ⟨v9, I9, F9, Y_iand hd h9, hp9⟩
theorem C_ishr {x y : Int32} (hd : decode M.2.1 pc = .ok (.ishr, 1))  (k : ZC Y l D M shf (pc + 1) L (.int (x >>> (y &&& 31)) :: S) I F sh Post) : ZC Y l D M shf (pc) L (.int y :: .int x :: S) I F sh Post := by
  obtain ⟨v9, I9, F9, h9, hp9⟩ := k
  exact ⟨v9, I9, F9, Y_ishr hd h9, hp9⟩
theorem C_i2c {x : Int32} (hd : decode M.2.1 pc = .ok (.i2c, 1))  (k : ZC Y l D M shf (pc + 1) L (.int (x.toUInt32 % 65536).toInt32 :: S) I F sh Post) : ZC Y l D M shf (pc) L (.int x :: S) I F sh Post := by
  obtain ⟨v9, I9, F9, h9, hp9⟩ := k
  exact ⟨v9, I9, F9, Y_i2c hd h9, hp9⟩
theorem C_dup {a : Value} (hd : decode M.2.1 pc = .ok (.dup, 1)) (ha : a.category = 1) (k : ZC Y l D M shf (pc + 1) L (a :: a :: S) I F sh Post) : ZC Y l D M shf (pc) L (a :: S) I F sh Post := by
  obtain ⟨v9, I9, F9, h9, hp9⟩ := k
  exact ⟨v9, I9, F9, Y_dup hd ha h9, hp9⟩
theorem C_pop {a : Value} (hd : decode M.2.1 pc = .ok (.pop, 1)) (ha : a.category = 1) (k : ZC Y l D M shf (pc + 1) L (S) I F sh Post) : ZC Y l D M shf (pc) L (a :: S) I F sh Post := by
  obtain ⟨v9, I9, F9, h9, hp9⟩ := k
  exact ⟨v9, I9, F9, Y_pop hd ha h9, hp9⟩
theorem C_iconst {n : Int} {x : Int32} (hd : decode M.2.1 pc = .ok (.iconst n, 1)) (hv : Int32.ofInt n = x) (k : ZC Y l D M shf (pc + 1) L (.int x :: S) I F sh Post) : ZC Y l D M shf (pc) L (S) I F sh Post := by
  obtain ⟨v9, I9, F9, h9, hp9⟩ := k
  exact ⟨v9, I9, F9, Y_iconst hd hv h9, hp9⟩
theorem C_bipush {n : Int} {x : Int32} (hd : decode M.2.1 pc = .ok (.bipush n, 2)) (hv : (Int8.ofInt n).toInt32 = x) (k : ZC Y l D M shf (pc + 2) L (.int x :: S) I F sh Post) : ZC Y l D M shf (pc) L (S) I F sh Post := by
  obtain ⟨v9, I9, F9, h9, hp9⟩ := k
  exact ⟨v9, I9, F9, Y_bipush hd hv h9, hp9⟩
theorem C_sipush {n : Int} {x : Int32} (hd : decode M.2.1 pc = .ok (.sipush n, 3)) (hv : (Int16.ofInt n).toInt32 = x) (k : ZC Y l D M shf (pc + 3) L (.int x :: S) I F sh Post) : ZC Y l D M shf (pc) L (S) I F sh Post := by
  obtain ⟨v9, I9, F9, h9, hp9⟩ := k
  exact ⟨v9, I9, F9, Y_sipush hd hv h9, hp9⟩
theorem C_iload_n {n : Fin 4} {x : Int32} (hd : decode M.2.1 pc = .ok (.iload_n n, 1)) (hL : L[(n : Nat)]? = some (some (.int x))) (k : ZC Y l D M shf (pc + 1) L (.int x :: S) I F sh Post) : ZC Y l D M shf (pc) L (S) I F sh Post := by
  obtain ⟨v9, I9, F9, h9, hp9⟩ := k
  exact ⟨v9, I9, F9, Y_iload_n hd hL h9, hp9⟩
theorem C_aload_n {n : Fin 4} {x : Nat} (hd : decode M.2.1 pc = .ok (.aload_n n, 1)) (hL : L[(n : Nat)]? = some (some (.ref x))) (k : ZC Y l D M shf (pc + 1) L (.ref x :: S) I F sh Post) : ZC Y l D M shf (pc) L (S) I F sh Post := by
  obtain ⟨v9, I9, F9, h9, hp9⟩ := k
  exact ⟨v9, I9, F9, Y_aload_n hd hL h9, hp9⟩
theorem C_istore_n {n : Fin 4} {x : Int32} (hd : decode M.2.1 pc = .ok (.istore_n n, 1)) (hn : (n : Nat) < M.2.2.1) (hg : zlong L (n : Nat) = false) (k : ZC Y l D M shf (pc + 1) (L.set (n : Nat) (some (.int x))) (S) I F sh Post) : ZC Y l D M shf (pc) L (.int x :: S) I F sh Post := by
  obtain ⟨v9, I9, F9, h9, hp9⟩ := k
  exact ⟨v9, I9, F9, Y_istore_n hd hn hg h9, hp9⟩
theorem C_astore_n {n : Fin 4} {x : Nat} (hd : decode M.2.1 pc = .ok (.astore_n n, 1)) (hn : (n : Nat) < M.2.2.1) (hg : zlong L (n : Nat) = false) (k : ZC Y l D M shf (pc + 1) (L.set (n : Nat) (some (.ref x))) (S) I F sh Post) : ZC Y l D M shf (pc) L (.ref x :: S) I F sh Post := by
  obtain ⟨v9, I9, F9, h9, hp9⟩ := k
  exact ⟨v9, I9, F9, Y_astore_n hd hn hg h9, hp9⟩
theorem C_iinc {i : Nat} {n : Int} {x y : Int32} (hd : decode M.2.1 pc = .ok (.iinc i n, 3)) (hL : L[i]? = some (some (.int x))) (hv : x + Int32.ofInt n = y) (hn : i < M.2.2.1) (hg : zlong L i = false) (k : ZC Y l D M shf (pc + 3) (L.set i (some (.int y))) (S) I F sh Post) : ZC Y l D M shf (pc) L (S) I F sh Post := by
  obtain ⟨v9, I9, F9, h9, hp9⟩ := k
  exact ⟨v9, I9, F9, Y_iinc hd hL hv hn hg h9, hp9⟩
theorem C_goto {off : Int} {tgt : Nat} (hd : decode M.2.1 pc = .ok (.goto off, 3)) (ht : (pc : Int) + off = (tgt : Int)) (k : ZC Y l D M shf (tgt) L (S) I F sh Post) : ZC Y l D M shf (pc) L (S) I F sh Post := by
  obtain ⟨v9, I9, F9, h9, hp9⟩ := k
  exact ⟨v9, I9, F9, Y_goto hd ht h9, hp9⟩
theorem C_tableIn {dflt lo hi : Int} {offs : Array Int} {len : Nat} {x : Int32} {off : Int} {tgt : Nat} (hd : decode M.2.1 pc = .ok (.tableswitch dflt lo hi offs, len)) (h1 : ¬ x.toInt < lo) (h2 : ¬ hi < x.toInt) (ho : offs[(x.toInt - lo).toNat]? = some off) (ht : (pc : Int) + off = (tgt : Int)) (k : ZC Y l D M shf (tgt) L (S) I F sh Post) : ZC Y l D M shf (pc) L (.int x :: S) I F sh Post := by
  obtain ⟨v9, I9, F9, h9, hp9⟩ := k
  exact ⟨v9, I9, F9, Y_tableIn hd h1 h2 ho ht h9, hp9⟩
theorem C_tableOut {dflt lo hi : Int} {offs : Array Int} {len : Nat} {x : Int32} {tgt : Nat} (hd : decode M.2.1 pc = .ok (.tableswitch dflt lo hi offs, len)) (h : x.toInt < lo ∨ hi < x.toInt) (ht : (pc : Int) + dflt = (tgt : Int)) (k : ZC Y l D M shf (tgt) L (S) I F sh Post) : ZC Y l D M shf (pc) L (.int x :: S) I F sh Post := by
  obtain ⟨v9, I9, F9, h9, hp9⟩ := k
  exact ⟨v9, I9, F9, Y_tableOut hd h ht h9, hp9⟩
theorem C_getr {idx a : Nat} (c k : Nat) {n b : Nat} (hd : decode M.2.1 pc = .ok (.getfield idx, 3)) (hf : zFl M.1.cls idx c k) (hs : sh[a]? = some (c, n)) (hc : (decide (c < 13) && decide (k < n) && decide (n = zNf c) && (zTy c k).isReference) = true) (hx : F a k = some b) (kk : ZC Y l D M shf (pc + 3) L (.ref b :: S) I F sh Post) : ZC Y l D M shf pc L (.ref a :: S) I F sh Post := by
  obtain ⟨v9, I9, F9, h9, hp9⟩ := kk
  exact ⟨v9, I9, F9, Y_getr c k hd hf hs hc hx h9, hp9⟩
theorem C_putr {idx a : Nat} (c k : Nat) {n b : Nat} (hd : decode M.2.1 pc = .ok (.putfield idx, 3)) (hf : zFl M.1.cls idx c k) (hs : sh[a]? = some (c, n)) (hc : (decide (c < 13) && decide (k < n) && decide (n = zNf c) && (zTy c k).isReference) = true) (hfin : (zTb c k).2.2.2 = false ∨ (M.1.name = "<init>" ∧ (zTb c k).1 = M.1.cls ∧ Cond.fieldLink M.1.cls idx (zTb c k).1 (zTb c k).2.1 (zTb c k).2.2.1 ∈ zT)) (hb : b < sh.length) (hn : ∀ q : Nat, narrow (zTy c k) (.ref q) = .ref q) (hfit : ∀ q : Nat, fits (zTy c k) (.ref q) = true) (kk : ZC Y l D M shf (pc + 3) L S I (zuR F a k (some b)) sh Post) : ZC Y l D M shf pc L (.ref b :: .ref a :: S) I F sh Post := by
  obtain ⟨v9, I9, F9, h9, hp9⟩ := kk
  exact ⟨v9, I9, F9, Y_putr c k hd hf hs hc hfin hb hn hfit h9, hp9⟩
theorem C_iast {a n : Nat} {i : Int32} {x : Int32} (j : Nat) (hd : decode M.2.1 pc = .ok (.iastore, 1)) (hs : sh[a]? = some (15, n)) (hi : i = nI j) (hj : j < n) (hn : n < 2 ^ 31) (kk : ZC Y l D M shf (pc + 1) L S (zu I a j x) F sh Post) : ZC Y l D M shf pc L (.int x :: .int i :: .ref a :: S) I F sh Post := by
  obtain ⟨v9, I9, F9, h9, hp9⟩ := kk
  exact ⟨v9, I9, F9, Y_iast j hd hs hi hj hn h9, hp9⟩
theorem C_callV {N : ZM} {idx n b k kn : Nat} {As : List Value} {J : AI} {G : AR} {th : AS} {u : Option Int32} (hYo : zYo Y) (hN : ZY Y l D N 0 (zent N.2.2.1 (.ref b :: As)) [] I F sh u J G th) (hd : decode M.2.1 pc = .ok (.invokevirtual idx, 3)) (ho : zOk N n) (hm : zMl M.1.cls idx N.1) (hi : Cond.instanceMethod N.1 ∈ zT ∧ Cond.selects N.1.cls N.1 N.1 ∈ zT) (hrm : zRm M N) (hret : zRet N.2.2.2.1 u) (hcat : (As.all fun a => a.category == 1) = true) (hlen : As.length = n ∧ n + 1 ≤ N.2.2.1) (hb : sh[b]? = some (k, kn)) (hk : k < 13 ∧ zRn k = N.1.cls) (hst : (S.map fun v => v.category).sum ≤ 8) (hnew : zNew L S sh th shf)
    (kk : ZC Y l D M shf (pc + 3) L (u.toList.map Value.int ++ S) J G th Post) : ZC Y l D M shf pc L (As.reverse ++ .ref b :: S) I F sh Post := by
  obtain ⟨v9, I9, F9, h9, hp9⟩ := kk
  exact ⟨v9, I9, F9, Y_callV hYo hN hd ho hm hi hrm hret hcat hlen hb hk hst hnew h9, hp9⟩
theorem C_callS {N : ZM} {idx n : Nat} {As : List Value} {J : AI} {G : AR} {th : AS} {u : Option Int32} (hYo : zYo Y) (hN : ZY Y l D N 0 (zent N.2.2.1 As) [] I F sh u J G th) (hd : decode M.2.1 pc = .ok (.invokestatic idx, 3)) (ho : zOk N n) (hm : zMl M.1.cls idx N.1) (hi : Cond.static N.1 ∈ zT) (hrm : zRm M N) (hret : zRet N.2.2.2.1 u) (hcat : (As.all fun a => a.category == 1) = true) (hlen : As.length = n ∧ n ≤ N.2.2.1) (hst : (S.map fun v => v.category).sum ≤ 8) (hnew : zNew L S sh th shf)
    (kk : ZC Y l D M shf (pc + 3) L (u.toList.map Value.int ++ S) J G th Post) : ZC Y l D M shf pc L (As.reverse ++ S) I F sh Post := by
  obtain ⟨v9, I9, F9, h9, hp9⟩ := kk
  exact ⟨v9, I9, F9, Y_callS hYo hN hd ho hm hi hrm hret hcat hlen hst hnew h9, hp9⟩
theorem C_callI {N : ZM} {idx n b : Nat} {As : List Value} {J : AI} {G : AR} {th : AS} (hYo : zYo Y) (hN : ZY Y l D N 0 (zent N.2.2.1 (.ref b :: As)) [] I F sh none J G th) (hd : decode M.2.1 pc = .ok (.invokespecial idx, 3)) (ho : zOk N n) (hm : zMl M.1.cls idx N.1) (hi : Cond.instanceMethod N.1 ∈ zT ∧ N.1.name = "<init>" ∧ N.2.2.2.1 = none) (hrm : zRm M N) (hcat : (As.all fun a => a.category == 1) = true) (hlen : As.length = n ∧ n + 1 ≤ N.2.2.1) (hst : (S.map fun v => v.category).sum ≤ 8) (hnew : zNew L S sh th shf)
    (kk : ZC Y l D M shf (pc + 3) L S J G th Post) : ZC Y l D M shf pc L (As.reverse ++ .ref b :: S) I F sh Post := by
  obtain ⟨v9, I9, F9, h9, hp9⟩ := kk
  exact ⟨v9, I9, F9, Y_callI hYo hN hd ho hm hi hrm hcat hlen hst hnew h9, hp9⟩
theorem C_callVo {N : ZM} {idx n b : Nat} {As : List Value} {J : AI} {G : AR} {th : AS} {u : Option Int32} (hYo : zYo Y) (hN : ZY Y l D N 0 (zent N.2.2.1 (.ref b :: As)) [] I F sh u J G th) (hd : decode M.2.1 pc = .ok (.invokevirtual idx, 3)) (ho : zOk N n) (hm : zMl M.1.cls idx N.1) (hi : Cond.instanceMethod N.1 ∈ zT ∧ Cond.selects N.1.cls N.1 N.1 ∈ zT) (hrm : zRm M N) (hret : zRet N.2.2.2.1 u) (hcat : (As.all fun a => a.category == 1) = true) (hlen : As.length = n ∧ n + 1 ≤ N.2.2.1) (hb : ∀ (s : State) (A : Nat → Prop) (H : Heap) (locs : List Loc) (ro : Nat → Nat), Y s A (fun i => ro (90000 + i)) → va_S A s.heap H locs → ∃ cell : Cell, H[ro b]? = some cell ∧ cell.vm.isStatics = false ∧ s.vm.findClass N.1.cls = some cell.cls) (hst : (S.map fun v => v.category).sum ≤ 8) (hnew : zNew L S sh th shf)
    (kk : ZC Y l D M shf (pc + 3) L (u.toList.map Value.int ++ S) J G th Post) : ZC Y l D M shf pc L (As.reverse ++ .ref b :: S) I F sh Post := by
  obtain ⟨v9, I9, F9, h9, hp9⟩ := kk
  exact ⟨v9, I9, F9, Y_callVo hYo hN hd ho hm hi hrm hret hcat hlen hb hst hnew h9, hp9⟩
theorem C_new {idx : Nat} (c0 : Nat) (hd : decode M.2.1 pc = .ok (.new idx, 3)) (hc0 : c0 < 13) (hcl : Cond.classLink M.1.cls idx (zRn c0) ∈ zT) (hinst : Cond.instantiable (zRn c0) (zNf c0) ∈ zT) (hini : Cond.initialized (zRn c0) ∈ zT) (hI : ∀ k, I sh.length k = 0) (hF : ∀ k, F sh.length k = none) (h90 : sh.length < 90000) (hroom : sh.length + 1 ≤ shf.length ∧ zsl sh + zNf c0 ≤ zsl shf) (hS : ∀ b, Value.ref b ∈ S → b < sh.length ∨ 90000 ≤ b) (hL : ∀ b, some (Value.ref b) ∈ L → b < sh.length ∨ 90000 ≤ b)
    (kk : ZC Y l D M shf (pc + 3) L (.ref sh.length :: S) I F (sh ++ [(c0, zNf c0)]) Post) : ZC Y l D M shf pc L S I F sh Post := by
  obtain ⟨v9, I9, F9, h9, hp9⟩ := kk
  exact ⟨v9, I9, F9, Y_new c0 hd hc0 hcl hinst hini hI hF h90 hroom hS hL h9, hp9⟩
theorem C_newa {at9 : ArrayType} {n : Int32} (k0 N : Nat) (hd : decode M.2.1 pc = .ok (.newarray at9, 2)) (hk0 : (decide (13 ≤ k0) && decide (k0 < 17)) = true) (hty : newarray.typeOf at9 = zKt k0) (hdf : defaultValue (zKt k0) = .int 0) (har : Cond.arrayClass (newarray.typeOf at9) ∈ zT) (hn : n = nI N) (hN : N ≤ 1000) (hby : N * componentBytes (zKt k0) ≤ 536870912) (hI : ∀ k, I sh.length k = 0) (h90 : sh.length < 90000) (hroom : sh.length + 1 ≤ shf.length ∧ zsl sh + N ≤ zsl shf) (hS : ∀ b, Value.ref b ∈ S → b < sh.length ∨ 90000 ≤ b) (hL : ∀ b, some (Value.ref b) ∈ L → b < sh.length ∨ 90000 ≤ b)
    (kk : ZC Y l D M shf (pc + 2) L (.ref sh.length :: S) I F (sh ++ [(k0, N)]) Post) : ZC Y l D M shf pc L (.int n :: S) I F sh Post := by
  obtain ⟨v9, I9, F9, h9, hp9⟩ := kk
  exact ⟨v9, I9, F9, Y_newa k0 N hd hk0 hty hdf har hn hN hby hI h90 hroom hS hL h9, hp9⟩
theorem C_anew {idx : Nat} {n : Int32} (N : Nat) (hd : decode M.2.1 pc = .ok (.anewarray idx, 3)) (hcl : Cond.classLink M.1.cls idx "LostAndTaxed$Signs" ∈ zT) (hov : Cond.arrayOver (.object "LostAndTaxed$Signs") ∈ zNl) (hn : n = nI N) (hN : N ≤ 1000) (hF : ∀ k, F sh.length k = none) (h90 : sh.length < 90000) (hroom : sh.length + 1 ≤ shf.length ∧ zsl sh + N ≤ zsl shf) (hS : ∀ b, Value.ref b ∈ S → b < sh.length ∨ 90000 ≤ b) (hL : ∀ b, some (Value.ref b) ∈ L → b < sh.length ∨ 90000 ≤ b)
    (kk : ZC Y l D M shf (pc + 3) L (.ref sh.length :: S) I F (sh ++ [(17, N)]) Post) : ZC Y l D M shf pc L (.int n :: S) I F sh Post := by
  obtain ⟨v9, I9, F9, h9, hp9⟩ := kk
  exact ⟨v9, I9, F9, Y_anew N hd hcl hov hn hN hF h90 hroom hS hL h9, hp9⟩
theorem C_obj {idx b : Nat} (hd : decode M.2.1 pc = .ok (.invokespecial idx, 3)) (hli : Cond.methodLink M.1.cls idx objectInit ∈ zT) (hf : 1 ≤ M.2.2.2.2.1) (hlo : (S.map fun v => v.category).sum + 12 ≤ M.2.2.2.2.2.1) (kk : ZC Y l D M shf (pc + 3) L S I F sh Post) : ZC Y l D M shf pc L (.ref b :: S) I F sh Post := by
  obtain ⟨v9, I9, F9, h9, hp9⟩ := kk
  exact ⟨v9, I9, F9, Y_obj hd hli hf hlo h9, hp9⟩
theorem C_aast {a b n kn : Nat} {i : Int32} (j : Nat) (hd : decode M.2.1 pc = .ok (.aastore, 1)) (hs0 : sh[a]? = some (17, n)) (hb : sh[b]? = some (5, kn)) (hi : i = nI j) (hj : j < n) (hn : n < 2 ^ 31) (kk : ZC Y l D M shf (pc + 1) L S I (zuR F a j (some b)) sh Post) : ZC Y l D M shf pc L (.ref b :: .int i :: .ref a :: S) I F sh Post := by
  obtain ⟨v9, I9, F9, h9, hp9⟩ := kk
  exact ⟨v9, I9, F9, Y_aast j hd hs0 hb hi hj hn h9, hp9⟩
theorem C_icmp_eqT {x y : Int32} {off : Int} {tgt : Nat} (hd : decode M.2.1 pc = .ok (.if_icmp .eq off, 3)) (ht : (pc : Int) + off = (tgt : Int)) (h : x = y) (k : ZC Y l D M shf tgt L S I F sh Post) : ZC Y l D M shf pc L (.int y :: .int x :: S) I F sh Post := by
  obtain ⟨v9, I9, F9, h9, hp9⟩ := k
  exact ⟨v9, I9, F9, Y_icmp_eq hd ht (fun _ => h9) (fun z => absurd h z), hp9⟩
theorem C_icmp_eqF {x y : Int32} {off : Int} {tgt : Nat} (hd : decode M.2.1 pc = .ok (.if_icmp .eq off, 3)) (ht : (pc : Int) + off = (tgt : Int)) (h : ¬ x = y) (k : ZC Y l D M shf (pc + 3) L S I F sh Post) : ZC Y l D M shf pc L (.int y :: .int x :: S) I F sh Post := by
  obtain ⟨v9, I9, F9, h9, hp9⟩ := k
  exact ⟨v9, I9, F9, Y_icmp_eq hd ht (fun z => absurd z h) (fun _ => h9), hp9⟩
theorem C_icmp_geT {x y : Int32} {off : Int} {tgt : Nat} (hd : decode M.2.1 pc = .ok (.if_icmp .ge off, 3)) (ht : (pc : Int) + off = (tgt : Int)) (h : y ≤ x) (k : ZC Y l D M shf tgt L S I F sh Post) : ZC Y l D M shf pc L (.int y :: .int x :: S) I F sh Post := by
  obtain ⟨v9, I9, F9, h9, hp9⟩ := k
  exact ⟨v9, I9, F9, Y_icmp_ge hd ht (fun _ => h9) (fun z => absurd h z), hp9⟩
theorem C_icmp_geF {x y : Int32} {off : Int} {tgt : Nat} (hd : decode M.2.1 pc = .ok (.if_icmp .ge off, 3)) (ht : (pc : Int) + off = (tgt : Int)) (h : ¬ y ≤ x) (k : ZC Y l D M shf (pc + 3) L S I F sh Post) : ZC Y l D M shf pc L (.int y :: .int x :: S) I F sh Post := by
  obtain ⟨v9, I9, F9, h9, hp9⟩ := k
  exact ⟨v9, I9, F9, Y_icmp_ge hd ht (fun z => absurd z h) (fun _ => h9), hp9⟩
theorem C_icmp_gtT {x y : Int32} {off : Int} {tgt : Nat} (hd : decode M.2.1 pc = .ok (.if_icmp .gt off, 3)) (ht : (pc : Int) + off = (tgt : Int)) (h : y < x) (k : ZC Y l D M shf tgt L S I F sh Post) : ZC Y l D M shf pc L (.int y :: .int x :: S) I F sh Post := by
  obtain ⟨v9, I9, F9, h9, hp9⟩ := k
  exact ⟨v9, I9, F9, Y_icmp_gt hd ht (fun _ => h9) (fun z => absurd h z), hp9⟩
theorem C_icmp_gtF {x y : Int32} {off : Int} {tgt : Nat} (hd : decode M.2.1 pc = .ok (.if_icmp .gt off, 3)) (ht : (pc : Int) + off = (tgt : Int)) (h : ¬ y < x) (k : ZC Y l D M shf (pc + 3) L S I F sh Post) : ZC Y l D M shf pc L (.int y :: .int x :: S) I F sh Post := by
  obtain ⟨v9, I9, F9, h9, hp9⟩ := k
  exact ⟨v9, I9, F9, Y_icmp_gt hd ht (fun z => absurd z h) (fun _ => h9), hp9⟩
theorem C_icmp_ltT {x y : Int32} {off : Int} {tgt : Nat} (hd : decode M.2.1 pc = .ok (.if_icmp .lt off, 3)) (ht : (pc : Int) + off = (tgt : Int)) (h : x < y) (k : ZC Y l D M shf tgt L S I F sh Post) : ZC Y l D M shf pc L (.int y :: .int x :: S) I F sh Post := by
  obtain ⟨v9, I9, F9, h9, hp9⟩ := k
  exact ⟨v9, I9, F9, Y_icmp_lt hd ht (fun _ => h9) (fun z => absurd h z), hp9⟩
theorem C_icmp_ltF {x y : Int32} {off : Int} {tgt : Nat} (hd : decode M.2.1 pc = .ok (.if_icmp .lt off, 3)) (ht : (pc : Int) + off = (tgt : Int)) (h : ¬ x < y) (k : ZC Y l D M shf (pc + 3) L S I F sh Post) : ZC Y l D M shf pc L (.int y :: .int x :: S) I F sh Post := by
  obtain ⟨v9, I9, F9, h9, hp9⟩ := k
  exact ⟨v9, I9, F9, Y_icmp_lt hd ht (fun z => absurd z h) (fun _ => h9), hp9⟩
theorem C_if_eqF {x : Int32} {off : Int} {tgt : Nat} (hd : decode M.2.1 pc = .ok (.ifCond .eq off, 3)) (ht : (pc : Int) + off = (tgt : Int)) (h : ¬ x = 0) (k : ZC Y l D M shf (pc + 3) L S I F sh Post) : ZC Y l D M shf pc L (.int x :: S) I F sh Post := by
  obtain ⟨v9, I9, F9, h9, hp9⟩ := k
  exact ⟨v9, I9, F9, Y_if_eq hd ht (fun z => absurd z h) (fun _ => h9), hp9⟩
theorem C_if_ltF {x : Int32} {off : Int} {tgt : Nat} (hd : decode M.2.1 pc = .ok (.ifCond .lt off, 3)) (ht : (pc : Int) + off = (tgt : Int)) (h : ¬ x < 0) (k : ZC Y l D M shf (pc + 3) L S I F sh Post) : ZC Y l D M shf pc L (.int x :: S) I F sh Post := by
  obtain ⟨v9, I9, F9, h9, hp9⟩ := k
  exact ⟨v9, I9, F9, Y_if_lt hd ht (fun z => absurd z h) (fun _ => h9), hp9⟩
theorem C_if_neF {x : Int32} {off : Int} {tgt : Nat} (hd : decode M.2.1 pc = .ok (.ifCond .ne off, 3)) (ht : (pc : Int) + off = (tgt : Int)) (h : x = 0) (k : ZC Y l D M shf (pc + 3) L S I F sh Post) : ZC Y l D M shf pc L (.int x :: S) I F sh Post := by
  obtain ⟨v9, I9, F9, h9, hp9⟩ := k
  exact ⟨v9, I9, F9, Y_if_ne hd ht (fun z => absurd h z) (fun _ => h9), hp9⟩
end CRows
