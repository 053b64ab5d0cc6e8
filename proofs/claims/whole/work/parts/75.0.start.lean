/-! THE CLAIM OUT OF ONE WALK OF THE LAW'S BODY. Your part is whole_start (and what it stands on); all else here is the same for every law, but numbers. -/
def R_law : String := "LostAndTaxedLaw"
def lw_P (b : Addr) (xs : List Int32) (args : Array Value) (s : State) : Prop := args = #[.ref b] ∧ s.IntsAt b xs ∧ xs.length ≤ 2048 ∧ (Jvm.Cond.and given_1 narrow_1).before args s = true
def lw_Q (_ : Array Value) (s : State) (o : Outcome) (t : State) : Prop := o = .returned (some (.int 1)) ∧ Framed s o t [] 600000 7302250
def lw_Z (below : List Frame) (a : Array Value) (s : State) : State → Prop := fun t => ∃ o, t.status = .running ∧ Ended t below o ∧ lw_Q a s o t
/-- the law's own end, with 1 on the stack, nothing written that was there before, its room as the claim has it -/
theorem lw_ret {p : Program} {l : Launch} {e : Env} {s : State} {m : MethodId} {below : List Frame} {meth : Method} {c : Code} {b : Nat} (hx : p.tables.exec = Jvm.exec) (hb : c.code = code) (hr : meth.sig.returnType = ret) (hlocks : meth.locks = false) {pc : Nat} {H : Heap} {ls : Array Slot} (hdg : decode code pc = .ok (.ireturn, 1)) : W p l e room_1 s m #[Value.ref b] below meth c H [] 600000 7302250 (lw_Z below #[Value.ref b] s) (F0 m pc ls [.int 1]) := by
  intro T hT X
  obtain ⟨fs, hret, hrun, hended, hW, hframe⟩ := X.leave (v := some (.int 1)) (hlocks := hlocks) (fun h => by rw [hr] at h; cases h)
  have hmeth' : T.vm.method? m = some meth := X.method'
  refine ⟨T.setFrames fs, ?_, .returned (some (.int 1)), hrun, hended, rfl, ⟨_, rfl⟩, hW, hframe⟩
  jvm_step X.here [X.here.top, hx, hb, hdg, hmeth', hr, ret, narrow_b1]
  (try refine ⟨rfl, ?_⟩); (try refine ⟨rfl, ?_⟩)
  first | (intro acts; rw [hret _ acts rfl rfl rfl]) | rw [hret _ _ rfl rfl rfl]
  exact Steps.refl _
/-- what holds at the law's entry: the machine, the code, the tables' words (any of lw_tbl by 'hts w (by decide +kernel)'), the script of L ints xs at the cell b, what the Statement gives of the start (any of its parts by flat_of_before) -/
def lw_At (p : Program) (s : State) (m : MethodId) (meth : Method) (c : Code) (b L : Nat) (xs : Nat → Int32) : Prop :=
  p.tables.exec = Jvm.exec ∧ c.code = code ∧ meth.sig.returnType = ret ∧ c.maxLocals = 4 ∧ s.vm.findClass R_law = some m.cls ∧ (∀ w ∈ lw_tbl, w.before #[Value.ref b] s = true) ∧ va_X b L xs s s.heap ∧ b < s.heap.size ∧ meth.locks = false ∧ (Jvm.Cond.and given_1 narrow_1).before #[Value.ref b] s = true ∧ (Jvm.Cond.code x code maxLocals ret).before #[Value.ref b] s = true
theorem z_inst {c : Nat} (h : c < 13) : Cond.instantiable (zRn c) (zNf c) ∈ zT := z13 (P := fun c => Cond.instantiable (zRn c) (zNf c) ∈ zT) h in_X0 in_X1 in_X2 in_X3 in_X4 in_X5 in_X6 in_X7 in_X8 in_X9 in_X10 in_X11 in_X12
theorem z_Ns {s : State} {args : Array Value} (hts : ∀ w ∈ lw_tbl, w.before args s = true) : zNs s := by
  intro w hw
  obtain ⟨h1, h2⟩ := List.mem_filter.mp hw
  have h0 := hts w h1
  cases w with
  | fieldLinkNest a b c d e f => exact va_Nw.of rfl h0
  | methodLinkNest a b c d => exact va_Nw.of rfl h0
  | arrayOver t =>
    have e : (Cond.arrayOver t).before args s = (Cond.arrayOver t).before #[] s := rfl
    show (Cond.arrayOver t).before #[] s = true
    rw [← e]
    exact h0
  | _ => simp [zNest] at h2
theorem z_known {s : State} {args : Array Value} (c9 : ClassId) (hts : ∀ w ∈ lw_tbl, w.before args s = true) : ∃ D : va_G, va_K D vwCl [] s := by
  have h0 : ∀ k : Nat, ∃ q : ClassId × (Nat → Nat), k < 13 → u_Kn s (zRn k) (zTb k) (zNf k) q.1 q.2 := by
    intro k
    by_cases hk : k < 13
    · obtain ⟨cC, iS, h⟩ := u_known (C := zRn k) (T := zTb k) (N := zNf k) (n := zNf k) hts (fun w hw => (z_goodT (z_u hk w hw)).1) (hts _ (z_goodT (z_inst hk)).1)
      exact ⟨(cC, iS), fun _ => h⟩
    · exact ⟨(c9, fun _ => 0), fun h => absurd h hk⟩
  obtain ⟨dq, hdq⟩ := Classical.axiomOfChoice h0
  refine ⟨(fun k => (dq k).1, fun k => (dq k).2), fun k q hq => ?_, fun k q h => by simp at h⟩
  have hk : k < 13 := (List.getElem?_eq_some_iff.mp hq).1
  have e := (z_cl hk).symm.trans hq
  cases e
  exact hdq k hk
def tmT : Term := Term.string "LostAndTaxed" 87
theorem f_el : ∀ j, j < 101 → (flatC (Jvm.Cond.and given_1 narrow_1))[13 + j]? = some (Cond.eq (.elem (.field tmT "java/lang/String" "value" "[B") (.int (Int32.ofNat j))) (.int (txB.getD j 0))) := by decide +kernel
theorem y_start {s : State} {b n : Nat} {xs : Nat → Int32} {A : Nat → Prop} (hA : ∀ a : Nat, a < s.heap.size → ¬ A a) (hts : ∀ w ∈ lw_tbl, w.before #[Value.ref b] s = true) (hX : va_X b n xs s s.heap) (hbl : b < s.heap.size) (hgv : (Jvm.Cond.and given_1 narrow_1).before #[Value.ref b] s = true) : ∃ (fm : Value) (r : Nat → Nat), fmOk fm ∧ r 0 = b ∧ YL fm n xs s A r := by
  have hs := flat_of_before _ hgv
  have hw : ∀ (i : Nat) (w : Cond), lw_tbl[i]? = some w → w.before #[Value.ref b] s = true := fun i w h => hts w (List.mem_of_getElem? h)
  obtain ⟨adK, adV, hSK, hev⟩ := vk_Sof (args := #[Value.ref b]) (s := s) (N := 1) (tm := fun _ => tmT) (len := [101]) (byt := [txB]) (A := A) (fun i hi => by cases (show i = 0 by omega); decide)
    (fun i hi => hs _ (List.mem_of_getElem? (i := 9) (by decide +kernel))) (fun i hi => hs _ (List.mem_of_getElem? (i := 10) (by decide +kernel))) (fun i hi => hs _ (List.mem_of_getElem? (i := 11) (by decide +kernel)))
    (fun i hi => by cases (show i = 0 by omega); exact hs _ (List.mem_of_getElem? (i := 12) (by decide +kernel)))
    (fun i hi j hj => by cases (show i = 0 by omega); exact hs _ (List.mem_of_getElem? (f_el j hj)))
    (fun i j hi hj hij => absurd (show i = j by omega) hij) hA
  have hR : vk_R "LostAndTaxed" 87 txS (adK 0) s := vk_R.of (hw 397 _ (by decide +kernel)) (hev 0 (by decide))
  have hZ : va_Z "java/lang/String" "COMPACT_STRINGS" "Z" (.int 1) A s s.heap := va_Zof (args := #[Value.ref b]) (hw 407 _ (by decide +kernel)) (hw 93 _ (by decide +kernel)) (va_eqi (hs _ (List.mem_of_getElem? (i := 4) (by decide +kernel)))) hA
  have hq : va_Zq "jdk/internal/util/Preconditions" "SIOOBE_FORMATTER" "Ljava/util/function/BiFunction;" A s s.heap := va_Zqof (args := #[Value.ref b]) (hw 423 _ (by decide +kernel)) (hw 95 _ (by decide +kernel)) (hs _ (List.mem_of_getElem? (i := 5) (by decide +kernel))) hA
  have hbA : ¬ A b := hA b hbl
  have hS1 : ∀ r : Nat → Nat, r 1 = adK 0 → r 2 = adV 0 → vk_S 1 [101] [txB] (fun _ => r 1) (fun _ => r 2) A s s.heap := by
    intro r e1 e2
    refine ⟨fun i hi => ?_, fun i j hi hj _ => by omega⟩
    cases (show i = 0 by omega)
    have h := hSK.1 0 (by decide)
    show va_O "java/lang/String" (r 1) A s s.heap ∧ va_OF "java/lang/String" "coder" "B" (.int 0) (r 1) A s s.heap ∧ va_OF "java/lang/String" "value" "[B" (.ref (r 2)) (r 1) A s s.heap ∧ _
    rw [e1, e2]
    exact h
  rcases hq with hq | ⟨t3, hq⟩
  · exact ⟨.null, fun i => if i = 0 then b else if i = 1 then adK 0 else adV 0, Or.inl rfl, rfl, ⟨hS1 (fun i => if i = 0 then b else if i = 1 then adK 0 else adV 0) rfl rfl, hR, hZ, hq⟩, hX, hbl, hbA⟩
  · exact ⟨.ref 90003, fun i => if i = 0 then b else if i = 1 then adK 0 else if i = 2 then adV 0 else t3, Or.inr rfl, rfl, ⟨hS1 (fun i => if i = 0 then b else if i = 1 then adK 0 else if i = 2 then adV 0 else t3) rfl rfl, hR, hZ, hq⟩, hX, hbl, hbA⟩
/-- from the entry, for every script of at most 2048 ints, the law comes to its end with true -/
theorem whole_start {p : Program} {e : Env} {s : State} {m : MethodId} {below : List Frame} {meth : Method} {c : Code} (l : Launch) {b L : Nat} {xs : Nat → Int32} (hL : L ≤ 2048) (C0 : lw_At p s m meth c b L xs) : W p l e room_1 s m #[Value.ref b] below meth c s.heap [] 0 0 (lw_Z below #[Value.ref b] s) (entryFrame m ([Value.ref b] : List Value).toArray 4) := by
  obtain ⟨hx, hb, hr, hml, hown, hts, hX, hbl, hlocks, hgv, hcode⟩ := id C0
  obtain ⟨D, hK⟩ := z_known m.cls hts
  obtain ⟨fm, r, hfm, hr0, hY⟩ := y_start (A := fun q : Nat => s.heap.size ≤ q) (fun a ha => Nat.not_le.mpr ha) hts hX hbl hgv
  obtain ⟨v, I', F', h, hv⟩ := y_law (fm := fm) (n := L) (xs := xs) (l := l) (D := D) hfm hL
  subst hv
  have hl := lv_entry ([.ref b]) (n := 4) (Nat.le_of_ble_eq_true rfl)
  rw [lg_entry_eq]
  generalize (lg_sl ([.ref b]) ++ List.replicate (4 - (lg_sl ([.ref b])).length) Slot.unset).toArray = ls at hl ⊢
  have hl2 : zh (fun a => r (a - 90000)) ls 4 (zent 4 [.ref 90000]) := by
    refine zh_entry (fun a ha => by cases List.mem_singleton.mp ha; rfl) ?_
    show lv_has ls 4 (lv_args 0 [.ref (r 0)])
    rw [hr0]
    exact hl
  have hZ : ZS D s (fun q : Nat => s.heap.size ≤ q) (fun a => r (a - 90000)) (fun _ => m.cls) z0 fN [] s.heap [] := ⟨fun k q h => by simp [zw] at h, ⟨fun i j p q h => by simp [zw] at h, fun k q h => by simp [zw] at h⟩, va_S.rf, ⟨hK, fun a q h => by simp at h⟩, fun a k b h => by cases h⟩
  have hXX : ZX D zm_L_law p room_1 s m #[Value.ref b] meth c (fun q : Nat => s.heap.size ≤ q) := ⟨hx, hb, hml, hown, fun w hw => by
    rcases List.mem_cons.mp hw with rfl | hw
    · exact hcode
    · exact hts w (z_goodT hw).1, z_Ns hts, by decide, by decide, fun _ h => h, fun h => absurd h (by decide)⟩
  have hY2 : YL fm L xs s (fun q : Nat => s.heap.size ≤ q) (fun i => (fun a => r (a - 90000)) (90000 + i)) := by
    have e : (fun i => (fun a => r (a - 90000)) (90000 + i)) = r := by
      funext i
      show r (90000 + i - 90000) = r i
      rw [Nat.add_sub_cancel_left]
    rw [e]
    exact hY
  refine h p e room_1 s m #[Value.ref b] below meth c (fun q : Nat => s.heap.size ≤ q) s.heap [] 0 0 (lw_Z below #[Value.ref b] s) (fun a => r (a - 90000)) (fun _ => m.cls) ls hY2 hXX hZ hl2 (by decide +kernel) (by decide +kernel) ?_
  intro H' locs' ro' ga' pc' ls' hZ' _ hdec
  exact va_forget (fun q hq => hZ'.2.2.1.2.2 q hq) (W.widen (k := 600000) (n := 7302250) (by decide +kernel) (by decide +kernel) (lw_ret hx hb hr hlocks hdec))
