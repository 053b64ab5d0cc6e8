/-! the law: its script, and what it keeps -/
def YL (fm : Value) (n : Nat) (xs : Nat → Int32) : YP := fun s A r => YS fm s A r ∧ va_X (r 0) n xs s s.heap ∧ r 0 < s.heap.size ∧ ¬ A (r 0)
theorem zYo_L (fm : Value) (n : Nat) (xs : Nat → Int32) : zYo (YL fm n xs) := by
  refine ⟨fun s U A B r locs h hS hW hB => ⟨(zYo_S fm).1 s U A B r locs h.1 hS hW hB, (va_X.moved hW.alike h.2.1).kept (hS.2.1 (r 0) h.2.2.1 h.2.2.2), Nat.lt_of_lt_of_le h.2.2.1 hS.1, fun z => h.2.2.2 (hB _ z)⟩, fun a U A r g mk h => ⟨(zYo_S fm).2 a U A r g mk h.1, ?_, h.2.2.1, h.2.2.2⟩⟩
  exact va_X.moved (u := U) (U := U.calling g mk a) (Vm.Alike.refl U.vm) h.2.1
theorem ZY.mono {Y Y2 : YP} {l : Launch} {D : va_G} {M : ZM} {pc : Nat} {L : List (Option Value)} {S : List Value} {I : AI} {F : AR} {sh : AS} {v : Option Int32} {I' : AI} {F' : AR} {sh' : AS} (h : ZY Y l D M pc L S I F sh v I' F' sh') (hY : ∀ s A r, Y2 s A r → Y s A r) : ZY Y2 l D M pc L S I F sh v I' F' sh' := fun p e R s m args below meth c A H locs cells slots Q ro ga ls h2 hX hZ hl hc hs hr => h p e R s m args below meth c A H locs cells slots Q ro ga ls (hY _ _ _ h2) hX hZ hl hc hs hr
section LawRows
variable {fm : Value} {n : Nat} {xs : Nat → Int32} {l : Launch} {D : va_G} {M : ZM} {pc : Nat} {L : List (Option Value)} {S : List Value} {I : AI} {F : AR} {sh shf : AS} {Post : Option Int32 → AI → AR → Prop}
theorem C_sld {i : Int32} (j : Nat) (hd : decode M.2.1 pc = .ok (.iaload, 1)) (hi : i = nI j) (hj : j < n) (hn : n < 2 ^ 31) (kk : ZC (YL fm n xs) l D M shf (pc + 1) L (.int (xs j) :: S) I F sh Post) : ZC (YL fm n xs) l D M shf pc L (.int i :: .ref 90000 :: S) I F sh Post := by
  obtain ⟨v9, I9, F9, h9, hp9⟩ := kk
  refine ⟨v9, I9, F9, ?_, hp9⟩
  intro p e R s m args below meth c A H locs cells slots Q ro ga ls hY hX hZ hl hc hs hr
  obtain ⟨h1, h2⟩ := z_in hi hj hn
  refine va_sld (b := ro 90000) (L := n) (xs := xs) hX.1 hX.2.1 hY.2.1 hY.2.2.1 hY.2.2.2 hZ.2.2.1 h1 hd ?_
  rw [h2]
  exact h9 p e R s m args below meth c A H locs cells slots Q ro ga ls hY hX hZ hl hc hs hr
theorem C_scl (hd : decode M.2.1 pc = .ok (.arraylength, 1)) (kk : ZC (YL fm n xs) l D M shf (pc + 1) L (.int (nI n) :: S) I F sh Post) : ZC (YL fm n xs) l D M shf pc L (.ref 90000 :: S) I F sh Post := by
  obtain ⟨v9, I9, F9, h9, hp9⟩ := kk
  refine ⟨v9, I9, F9, ?_, hp9⟩
  intro p e R s m args below meth c A H locs cells slots Q ro ga ls hY hX hZ hl hc hs hr
  exact va_slen (b := ro 90000) (L := n) (xs := xs) hX.1 hX.2.1 hY.2.1 hY.2.2.1 hY.2.2.2 hZ.2.2.1 hd (h9 p e R s m args below meth c A H locs cells slots Q ro ga ls hY hX hZ hl hc hs hr)
end LawRows
theorem and31 (x : Int32) : ∃ k, k < 32 ∧ x &&& nI 31 = nI k := by
  refine ⟨(x &&& nI 31).toBitVec.toNat, ?_, ?_⟩
  · have h : (x &&& nI 31).toBitVec = x.toBitVec &&& (nI 31).toBitVec := rfl
    rw [h, BitVec.toNat_and]
    exact Nat.lt_of_le_of_lt Nat.and_le_right (by decide)
  · refine Int32.toBitVec_inj.mp (BitVec.eq_of_toNat_eq ?_)
    show _ = (BitVec.ofNat 32 _).toNat
    rw [BitVec.toNat_ofNat, Nat.mod_eq_of_lt (BitVec.isLt _)]
theorem law_gt {n i : Nat} (hn : n ≤ 2048) (hi : i ≤ 4096) : nI n - nI 4 < nI i ↔ n < i + 4 := by
  rw [Int32.lt_iff_toInt_lt, pk_sub_toInt (by omega) (by decide), nI_toInt (by omega)]
  omega
theorem zne2 {n : Nat} (h : n ≤ 8) : ¬ nI n = -2 := by
  intro e
  have h1 := congrArg Int32.toInt e
  rw [nI_toInt (by omega)] at h1
  have h2 : (-2 : Int32).toInt = -2 := by decide
  omega
/-- what holds between two calls -/
def LInv (t : Nat) (s : Nat → Nat → Nat) (I : AI) : Prop := (t = 5 ∨ t = 36) ∧ CR t s I ∧ RInv s ∧ RefA s I
abbrev zLL (i : Nat) : List (Option Value) := [some (.ref 90000), some (.ref 0), some (.ref 109), some (.int (nI i))]
theorem s_write {l : Launch} {D : va_G} {I : AI} {s : Nat → Nat → Nat} {t : Nat} (ht : t = 5 ∨ t = 36) (hC : CR t s I) (hR : RInv s) {x : Int32} : ZP l D zm_X11_write 0 (zent 2 [.ref 0, .int x]) [] I (zF t) (fun v J G => v = some (aWrite s x) ∧ G = zF t ∧ CR t (nWrite s x) J ∧ zHg I J) := by
  rcases ht with rfl | rfl
  · exact c_write11_5 hC hR
  · exact c_write11_36 hC hR
theorem s_wipe {l : Launch} {D : va_G} {I : AI} {s : Nat → Nat → Nat} {t : Nat} (ht : t = 5 ∨ t = 36) (hC : CR t s I) (hR : RInv s) : ZP l D zm_X11_wipe 0 (zent 2 [.ref 0]) [] I (zF t) (fun v J G => v = some (nI (s 109 1)) ∧ G = zF t ∧ CR t (zuN s 109 1 0) J ∧ zHg I J) := by
  rcases ht with rfl | rfl
  · exact c_wipe11_5 hC hR
  · exact c_wipe11_36 hC hR
theorem s_fault {l : Launch} {D : va_G} {I : AI} {s : Nat → Nat → Nat} {t : Nat} (ht : t = 5 ∨ t = 36) (hC : CR t s I) (hR : RInv s) : ZP l D zm_X11_fault 0 (zent 1 [.ref 0]) [] I (zF t) (fun v J G => v = some (aFault s) ∧ G = zF t ∧ zSc t I J) := by
  rcases ht with rfl | rfl
  · exact c_fault11_5 hC hR
  · exact c_fault11_36 hC hR
theorem s_lay {l : Launch} {D : va_G} {I : AI} {s : Nat → Nat → Nat} {t : Nat} (ht : t = 5 ∨ t = 36) (hC : CR t s I) (hR : RInv s) : ZP l D zm_X11_lay 0 (zent 2 [.ref 0]) [] I (zF t) (fun v J G => v = some (aLay s) ∧ zHg I J ∧ ((aLay s = -2 ∧ G = zF t ∧ CR t s J) ∨ ∃ s3 f3, zPar 201 (sIni s) true 0 = .inr s3 ∧ DrF s3 f3 ∧ Scr zDr s s3 ∧ ¬ s3 116 1 = 0 ∧ aLay s = nI (s3 111 1) ∧ G = zF (41 - t) ∧ CR (41 - t) (sTk s3) J)) := by
  rcases ht with rfl | rfl
  · exact c_lay11_5 hC hR
  · exact c_lay11_36 hC hR
theorem s_far {l : Launch} {D : va_G} {I : AI} {s : Nat → Nat → Nat} {t : Nat} (ht : t = 5 ∨ t = 36) (hC : CR t s I) (hR : RInv s) {x y : Int32} : ZP l D zm_X11_far 0 (zent 3 [.ref 0, .int x, .int y]) [] I (zF t) (fun v J G => v = some (aFar s x y) ∧ I = J ∧ G = zF t) := by
  rcases ht with rfl | rfl
  · exact c_far11_5 hC hR
  · exact c_far11_36 hC hR
theorem s_street {l : Launch} {D : va_G} {I : AI} {s : Nat → Nat → Nat} {t : Nat} (ht : t = 5 ∨ t = 36) (hC : CR t s I) (hR : RInv s) {x y : Int32} : ZP l D zm_X11_street 0 (zent 4 [.ref 0, .int x, .int y]) [] I (zF t) (fun v J G => v = some (aStreet s x y) ∧ I = J ∧ G = zF t) := by
  rcases ht with rfl | rfl
  · exact c_street11_5 hC hR
  · exact c_street11_36 hC hR
theorem s_sign {l : Launch} {D : va_G} {I : AI} {s : Nat → Nat → Nat} {t : Nat} (ht : t = 5 ∨ t = 36) (hC : CR t s I) (hR : RInv s) {x y : Int32} : ZP l D zm_X11_sign 0 (zent 3 [.ref 0, .int x, .int y]) [] I (zF t) (fun v J G => v = some (aSign s x y) ∧ I = J ∧ G = zF t) := by
  rcases ht with rfl | rfl
  · exact c_sign11_5 hC hR
  · exact c_sign11_36 hC hR
theorem s_walker {l : Launch} {D : va_G} {I : AI} {s : Nat → Nat → Nat} {t : Nat} (ht : t = 5 ∨ t = 36) (hC : CR t s I) (hR : RInv s) {x y : Int32} : ZP l D zm_X11_walker 0 (zent 3 [.ref 0, .int x, .int y]) [] I (zF t) (fun v J G => v = some (aWalker s x y) ∧ I = J ∧ G = zF t) := by
  rcases ht with rfl | rfl
  · exact c_walker11_5 hC hR
  · exact c_walker11_36 hC hR
theorem s_walk {l : Launch} {D : va_G} {I : AI} {s : Nat → Nat → Nat} {t : Nat} (ht : t = 5 ∨ t = 36) (hC : CR t s I) (hR : RInv s) {x y : Int32} : ZP l D zm_X11_walk 0 (zent 3 [.ref 0, .int x, .int y]) [] I (zF t) (fun v J G => v = some (aWalk s x y) ∧ G = zF t ∧ zSc t I J) := by
  rcases ht with rfl | rfl
  · exact c_walk11_5 hC hR
  · exact c_walk11_36 hC hR
theorem s_way {l : Launch} {D : va_G} {I : AI} {s : Nat → Nat → Nat} {t : Nat} (ht : t = 5 ∨ t = 36) (hC : CR t s I) (hR : RInv s) {x y : Int32} : ZP l D zm_X11_way 0 (zent 3 [.ref 0, .int x, .int y]) [] I (zF t) (fun v J G => v = some (aWay s x y) ∧ G = zF t ∧ zSc t I J) := by
  rcases ht with rfl | rfl
  · exact c_way11_5 hC hR
  · exact c_way11_36 hC hR
theorem s_round {l : Launch} {D : va_G} {I : AI} {s : Nat → Nat → Nat} {t : Nat} (ht : t = 5 ∨ t = 36) (hC : CR t s I) (hR : RInv s) {x : Int32} : ZP l D zm_X11_round 0 (zent 2 [.ref 0, .int x]) [] I (zF t) (fun v J G => v = some (aRound s x) ∧ G = zF t ∧ zSc t I J) := by
  rcases ht with rfl | rfl
  · exact c_round11_5 hC hR
  · exact c_round11_36 hC hR
theorem s_tax {l : Launch} {D : va_G} {I : AI} {s : Nat → Nat → Nat} {t : Nat} (ht : t = 5 ∨ t = 36) (hC : CR t s I) (hR : RInv s) : ZP l D zm_X11_tax 0 (zent 1 [.ref 0]) [] I (zF t) (fun v J G => v = some (nI (taxAt s 0)) ∧ G = zF t ∧ zSc t I J) := by
  rcases ht with rfl | rfl
  · exact c_tax11_5 hC hR
  · exact c_tax11_36 hC hR
theorem s_put {l : Launch} {D : va_G} {I : AI} {s : Nat → Nat → Nat} {t : Nat} (ht : t = 5 ∨ t = 36) (hC : CR t s I) (hR : RInv s) {x y z : Int32} : ZP l D zm_X11_put 0 (zent 4 [.ref 0, .int x, .int y, .int z]) [] I (zF t) (fun v J G => v = some (aPut s x y z) ∧ G = zF t ∧ CR t (nPut s x y z) J ∧ zHg I J) := by
  rcases ht with rfl | rfl
  · exact c_put11_5 hC hR
  · exact c_put11_36 hC hR
theorem s_take {l : Launch} {D : va_G} {I : AI} {s : Nat → Nat → Nat} {t : Nat} (ht : t = 5 ∨ t = 36) (hC : CR t s I) (hR : RInv s) {x : Int32} : ZP l D zm_X11_take 0 (zent 3 [.ref 0, .int x]) [] I (zF t) (fun v J G => v = some (aTake s x) ∧ G = zF t ∧ CR t (nTake s x) J ∧ zHg I J) := by
  rcases ht with rfl | rfl
  · exact c_take11_5 hC hR
  · exact c_take11_36 hC hR
theorem s_tell {l : Launch} {D : va_G} {I : AI} {s : Nat → Nat → Nat} {t : Nat} (ht : t = 5 ∨ t = 36) (hC : CR t s I) (hR : RInv s) {x y : Int32} : ZP l D zm_X11_tell 0 (zent 4 [.ref 0, .int x, .int y]) [] I (zF t) (fun v J G => v = some (aTell s x y) ∧ G = zF t ∧ CR t (nTell s x y) J ∧ zHg I J) := by
  rcases ht with rfl | rfl
  · exact c_tell11_5 hC hR
  · exact c_tell11_36 hC hR
theorem s_undo {l : Launch} {D : va_G} {I : AI} {s : Nat → Nat → Nat} {t : Nat} (ht : t = 5 ∨ t = 36) (hC : CR t s I) (hR : RInv s) : ZP l D zm_X11_undo 0 (zent 1 [.ref 0]) [] I (zF t) (fun v J G => v = some (aUndo s) ∧ G = zF t ∧ CR t (nUndo s) J ∧ zHg I J) := by
  rcases ht with rfl | rfl
  · exact c_undo11_5 hC hR
  · exact c_undo11_36 hC hR
theorem s_lies {l : Launch} {D : va_G} {I : AI} {s : Nat → Nat → Nat} {t : Nat} (ht : t = 5 ∨ t = 36) (hC : CR t s I) (hR : RInv s) : ZP l D zm_X11_lies 0 (zent 4 [.ref 0]) [] I (zF t) (fun v J G => v = some (aLies s) ∧ I = J ∧ G = zF t) := by
  rcases ht with rfl | rfl
  · exact c_lies11_5 hC hR
  · exact c_lies11_36 hC hR
theorem s_lure {l : Launch} {D : va_G} {I : AI} {s : Nat → Nat → Nat} {t : Nat} (ht : t = 5 ∨ t = 36) (hC : CR t s I) (hR : RInv s) {x : Int32} : ZP l D zm_X11_lure 0 (zent 5 [.ref 0, .int x]) [] I (zF t) (fun v J G => v = some (aLure s x) ∧ G = zF t ∧ zSc t I J) := by
  rcases ht with rfl | rfl
  · exact c_lure11_5 hC hR
  · exact c_lure11_36 hC hR
theorem s_mend {l : Launch} {D : va_G} {I : AI} {s : Nat → Nat → Nat} {t : Nat} (ht : t = 5 ∨ t = 36) (hC : CR t s I) (hR : RInv s) {x : Int32} : ZP l D zm_X11_mend 0 (zent 3 [.ref 0, .int x]) [] I (zF t) (fun v J G => v = some (aMend s x) ∧ G = zF t ∧ zSc t I J) := by
  rcases ht with rfl | rfl
  · exact c_mend11_5 hC hR
  · exact c_mend11_36 hC hR
theorem s_best {l : Launch} {D : va_G} {I : AI} {s : Nat → Nat → Nat} {t : Nat} (ht : t = 5 ∨ t = 36) (hC : CR t s I) (hR : RInv s) {x y : Int32} : ZP l D zm_X11_best 0 (zent 5 [.ref 0, .int x, .int y]) [] I (zF t) (fun v J G => v = some (aBest s x y) ∧ G = zF t ∧ zSc t I J) := by
  rcases ht with rfl | rfl
  · exact c_best11_5 hC hR
  · exact c_best11_36 hC hR
theorem s_watch {l : Launch} {D : va_G} {I : AI} {s : Nat → Nat → Nat} {t : Nat} (ht : t = 5 ∨ t = 36) (hC : CR t s I) (hR : RInv s) {x : Int32} : ZP l D zm_X11_watch 0 (zent 3 [.ref 0, .int x]) [] I (zF t) (fun v J G => v = some (aWatch s x) ∧ G = zF t ∧ zSc t I J) := by
  rcases ht with rfl | rfl
  · exact c_watch11_5 hC hR
  · exact c_watch11_36 hC hR
theorem s_missed {l : Launch} {D : va_G} {I : AI} {s : Nat → Nat → Nat} {t : Nat} (ht : t = 5 ∨ t = 36) (hC : CR t s I) (hR : RInv s) {x : Int32} : ZP l D zm_X11_missed 0 (zent 4 [.ref 0, .int x]) [] I (zF t) (fun v J G => v = some (aMissed s x) ∧ G = zF t ∧ zSc t I J) := by
  rcases ht with rfl | rfl
  · exact c_missed11_5 hC hR
  · exact c_missed11_36 hC hR
theorem s_seen {l : Launch} {D : va_G} {I : AI} {s : Nat → Nat → Nat} {t : Nat} (ht : t = 5 ∨ t = 36) (hC : CR t s I) (hR : RInv s) {x y z : Int32} : ZP l D zm_X11_seen 0 (zent 4 [.ref 0, .int x, .int y, .int z]) [] I (zF t) (fun v J G => v = some (aSeen s x y z) ∧ G = zF t ∧ CR t (nSeen s x y z) J ∧ zHg I J) := by
  rcases ht with rfl | rfl
  · exact c_seen11_5 hC hR
  · exact c_seen11_36 hC hR
theorem s_forget {l : Launch} {D : va_G} {I : AI} {s : Nat → Nat → Nat} {t : Nat} (ht : t = 5 ∨ t = 36) (hC : CR t s I) (hR : RInv s) : ZP l D zm_X11_forget 0 (zent 2 [.ref 0]) [] I (zF t) (fun v J G => v = some (nI (s 109 33)) ∧ G = zF t ∧ CR t (zuN s 109 33 0) J ∧ zHg I J) := by
  rcases ht with rfl | rfl
  · exact c_forget11_5 hC hR
  · exact c_forget11_36 hC hR
theorem s_kinds {l : Launch} {D : va_G} {I : AI} {s : Nat → Nat → Nat} {t : Nat} (ht : t = 5 ∨ t = 36) (hC : CR t s I) (hR : RInv s) {x : Int32} : ZP l D zm_X11_kinds 0 (zent 5 [.ref 0, .int x]) [] I (zF t) (fun v J G => v = some (aKinds s x) ∧ G = zF t ∧ zSc t I J) := by
  rcases ht with rfl | rfl
  · exact c_kinds11_5 hC hR
  · exact c_kinds11_36 hC hR
theorem s_paid {l : Launch} {D : va_G} {I : AI} {s : Nat → Nat → Nat} {t : Nat} (ht : t = 5 ∨ t = 36) (hC : CR t s I) (hR : RInv s) {x y : Int32} : ZP l D zm_X11_paid 0 (zent 7 [.ref 0, .int x, .int y]) [] I (zF t) (fun v J G => v = some (aPaid s x y) ∧ G = zF t ∧ zSc t I J) := by
  rcases ht with rfl | rfl
  · exact c_paid11_5 hC hR
  · exact c_paid11_36 hC hR
theorem s_mean {l : Launch} {D : va_G} {I : AI} {s : Nat → Nat → Nat} {t : Nat} (ht : t = 5 ∨ t = 36) (hC : CR t s I) (hR : RInv s) {x0 y0 z0 : Int32} : ZP l D zm_X11_mean 0 (zent 9 [.ref 0, .int x0, .int y0, .int z0]) [] I (zF t) (fun v J G => v = some (aMean s x0 y0 z0) ∧ G = zF t ∧ zSc t I J) := by
  rcases ht with rfl | rfl
  · exact c_mean11_5 hC hR
  · exact c_mean11_36 hC hR
theorem s_day {l : Launch} {D : va_G} {I : AI} {s : Nat → Nat → Nat} {t : Nat} (ht : t = 5 ∨ t = 36) (hC : CR t s I) (hR : RInv s) {x y : Int32} : ZP l D zm_X11_day 0 (zent 9 [.ref 0, .int x, .int y]) [] I (zF t) (fun v J G => v = some (aDay s x y) ∧ G = zF t ∧ zSc t I J) := by
  rcases ht with rfl | rfl
  · exact c_day11_5 hC hR
  · exact c_day11_36 hC hR
theorem s_keep {l : Launch} {D : va_G} {I : AI} {s : Nat → Nat → Nat} {t : Nat} (ht : t = 5 ∨ t = 36) (hC : CR t s I) (hR : RInv s) : ZP l D zm_X11_keep 0 (zent 1 [.ref 0]) [] I (zF t) (fun v J G => v = some (aKeep s) ∧ G = zF t ∧ CR t (nKeep s) J ∧ zHg I J) := by
  rcases ht with rfl | rfl
  · exact c_keep11_5 hC hR
  · exact c_keep11_36 hC hR
theorem s_back {l : Launch} {D : va_G} {I : AI} {s : Nat → Nat → Nat} {t : Nat} (ht : t = 5 ∨ t = 36) (hC : CR t s I) (hR : RInv s) : ZP l D zm_X11_back 0 (zent 1 [.ref 0]) [] I (zF t) (fun v J G => v = some (aBack s) ∧ G = zF t ∧ CR t (nBack s) J ∧ zHg I J) := by
  rcases ht with rfl | rfl
  · exact c_back11_5 hC hR
  · exact c_back11_36 hC hR
theorem s_count {l : Launch} {D : va_G} {I : AI} {s : Nat → Nat → Nat} {t : Nat} (ht : t = 5 ∨ t = 36) (hC : CR t s I) (hR : RInv s) {x : Int32} : ZP l D zm_X11_count 0 (zent 2 [.ref 0, .int x]) [] I (zF t) (fun v J G => v = some (aCount s x) ∧ I = J ∧ G = zF t) := by
  rcases ht with rfl | rfl
  · exact c_count11_5 hC hR
  · exact c_count11_36 hC hR
