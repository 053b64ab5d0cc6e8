section
-- ===== PART A: goes FIRST, ahead of the names: the tables' words, and 'selects' of the private methods out of them =====
/-- a private method of a class that the tables say can be made, by its rows of tables_1 -/
def lw_okq (q : MethodName × Nat) : Prop := (q.1.cls ≠ "java/lang/invoke/MethodHandle" ∧ q.1.cls ≠ "java/lang/invoke/VarHandle") ∧ Cond.instantiable q.1.cls q.2 ∈ tables_1 ∧ Cond.privateMethod q.1 ∈ tables_1 ∧ Cond.instanceMethod q.1 ∈ tables_1
theorem lw_p0 : lw_okq (⟨"LostAndTaxed$Text", "append", "(I)V"⟩, 2) := ⟨⟨by decide +kernel, by decide +kernel⟩, List.mem_of_getElem? (i := 30) (by decide +kernel), List.mem_of_getElem? (i := 367) (by decide +kernel), List.mem_of_getElem? (i := 368) (by decide +kernel)⟩
theorem lw_p1 : lw_okq (⟨"LostAndTaxed$Reader", "readInto", "(LLostAndTaxed$Town;LLostAndTaxed$Text;)I"⟩, 3) := ⟨⟨by decide +kernel, by decide +kernel⟩, List.mem_of_getElem? (i := 46) (by decide +kernel), List.mem_of_getElem? (i := 375) (by decide +kernel), List.mem_of_getElem? (i := 376) (by decide +kernel)⟩
theorem lw_p2 : lw_okq (⟨"LostAndTaxed$Town", "clear", "()V"⟩, 6) := ⟨⟨by decide +kernel, by decide +kernel⟩, List.mem_of_getElem? (i := 63) (by decide +kernel), List.mem_of_getElem? (i := 379) (by decide +kernel), List.mem_of_getElem? (i := 380) (by decide +kernel)⟩
theorem lw_p3 : lw_okq (⟨"LostAndTaxed$Streets", "clear", "()V"⟩, 6) := ⟨⟨by decide +kernel, by decide +kernel⟩, List.mem_of_getElem? (i := 69) (by decide +kernel), List.mem_of_getElem? (i := 383) (by decide +kernel), List.mem_of_getElem? (i := 384) (by decide +kernel)⟩
theorem lw_p4 : lw_okq (⟨"LostAndTaxed$Text", "letterAt", "(I)I"⟩, 2) := ⟨⟨by decide +kernel, by decide +kernel⟩, List.mem_of_getElem? (i := 30) (by decide +kernel), List.mem_of_getElem? (i := 390) (by decide +kernel), List.mem_of_getElem? (i := 391) (by decide +kernel)⟩
theorem lw_p5 : lw_okq (⟨"LostAndTaxed$Reader", "readNumbers", "(LLostAndTaxed$Text;I)Z"⟩, 3) := ⟨⟨by decide +kernel, by decide +kernel⟩, List.mem_of_getElem? (i := 46) (by decide +kernel), List.mem_of_getElem? (i := 394) (by decide +kernel), List.mem_of_getElem? (i := 395) (by decide +kernel)⟩
theorem lw_p6 : lw_okq (⟨"LostAndTaxed$Reader", "readNumber", "(LLostAndTaxed$Text;)I"⟩, 3) := ⟨⟨by decide +kernel, by decide +kernel⟩, List.mem_of_getElem? (i := 46) (by decide +kernel), List.mem_of_getElem? (i := 398) (by decide +kernel), List.mem_of_getElem? (i := 399) (by decide +kernel)⟩
theorem lw_p7 : lw_okq (⟨"LostAndTaxed$Reader", "accept", "(ILLostAndTaxed$Town;)Z"⟩, 3) := ⟨⟨by decide +kernel, by decide +kernel⟩, List.mem_of_getElem? (i := 46) (by decide +kernel), List.mem_of_getElem? (i := 402) (by decide +kernel), List.mem_of_getElem? (i := 403) (by decide +kernel)⟩
theorem lw_p8 : lw_okq (⟨"LostAndTaxed$Reader", "acceptCorners", "(LLostAndTaxed$Town;)Z"⟩, 3) := ⟨⟨by decide +kernel, by decide +kernel⟩, List.mem_of_getElem? (i := 46) (by decide +kernel), List.mem_of_getElem? (i := 406) (by decide +kernel), List.mem_of_getElem? (i := 407) (by decide +kernel)⟩
theorem lw_p9 : lw_okq (⟨"LostAndTaxed$Reader", "acceptStreet", "(LLostAndTaxed$Town;)Z"⟩, 3) := ⟨⟨by decide +kernel, by decide +kernel⟩, List.mem_of_getElem? (i := 46) (by decide +kernel), List.mem_of_getElem? (i := 410) (by decide +kernel), List.mem_of_getElem? (i := 411) (by decide +kernel)⟩
theorem lw_p10 : lw_okq (⟨"LostAndTaxed$Streets", "add", "(III)V"⟩, 6) := ⟨⟨by decide +kernel, by decide +kernel⟩, List.mem_of_getElem? (i := 69) (by decide +kernel), List.mem_of_getElem? (i := 417) (by decide +kernel), List.mem_of_getElem? (i := 418) (by decide +kernel)⟩
theorem lw_p11 : lw_okq (⟨"LostAndTaxed$Reader", "acceptSign", "(LLostAndTaxed$Town;)Z"⟩, 3) := ⟨⟨by decide +kernel, by decide +kernel⟩, List.mem_of_getElem? (i := 46) (by decide +kernel), List.mem_of_getElem? (i := 421) (by decide +kernel), List.mem_of_getElem? (i := 422) (by decide +kernel)⟩
theorem lw_p12 : lw_okq (⟨"LostAndTaxed$Signs", "insert", "(IIII)V"⟩, 4) := ⟨⟨by decide +kernel, by decide +kernel⟩, List.mem_of_getElem? (i := 104) (by decide +kernel), List.mem_of_getElem? (i := 425) (by decide +kernel), List.mem_of_getElem? (i := 426) (by decide +kernel)⟩
theorem lw_p13 : lw_okq (⟨"LostAndTaxed$Signs", "move", "(II)V"⟩, 4) := ⟨⟨by decide +kernel, by decide +kernel⟩, List.mem_of_getElem? (i := 104) (by decide +kernel), List.mem_of_getElem? (i := 429) (by decide +kernel), List.mem_of_getElem? (i := 430) (by decide +kernel)⟩
theorem lw_p14 : lw_okq (⟨"LostAndTaxed$Reader", "acceptWalker", "(LLostAndTaxed$Town;)Z"⟩, 3) := ⟨⟨by decide +kernel, by decide +kernel⟩, List.mem_of_getElem? (i := 46) (by decide +kernel), List.mem_of_getElem? (i := 433) (by decide +kernel), List.mem_of_getElem? (i := 434) (by decide +kernel)⟩
theorem lw_p15 : lw_okq (⟨"LostAndTaxed$Walkers", "add", "(III)V"⟩, 5) := ⟨⟨by decide +kernel, by decide +kernel⟩, List.mem_of_getElem? (i := 129) (by decide +kernel), List.mem_of_getElem? (i := 437) (by decide +kernel), List.mem_of_getElem? (i := 438) (by decide +kernel)⟩
def lw_privs_1 : List (MethodName × Nat) := [(⟨"LostAndTaxed$Text", "append", "(I)V"⟩, 2), (⟨"LostAndTaxed$Reader", "readInto", "(LLostAndTaxed$Town;LLostAndTaxed$Text;)I"⟩, 3), (⟨"LostAndTaxed$Town", "clear", "()V"⟩, 6), (⟨"LostAndTaxed$Streets", "clear", "()V"⟩, 6), (⟨"LostAndTaxed$Text", "letterAt", "(I)I"⟩, 2), (⟨"LostAndTaxed$Reader", "readNumbers", "(LLostAndTaxed$Text;I)Z"⟩, 3), (⟨"LostAndTaxed$Reader", "readNumber", "(LLostAndTaxed$Text;)I"⟩, 3), (⟨"LostAndTaxed$Reader", "accept", "(ILLostAndTaxed$Town;)Z"⟩, 3), (⟨"LostAndTaxed$Reader", "acceptCorners", "(LLostAndTaxed$Town;)Z"⟩, 3), (⟨"LostAndTaxed$Reader", "acceptStreet", "(LLostAndTaxed$Town;)Z"⟩, 3), (⟨"LostAndTaxed$Streets", "add", "(III)V"⟩, 6), (⟨"LostAndTaxed$Reader", "acceptSign", "(LLostAndTaxed$Town;)Z"⟩, 3), (⟨"LostAndTaxed$Signs", "insert", "(IIII)V"⟩, 4), (⟨"LostAndTaxed$Signs", "move", "(II)V"⟩, 4), (⟨"LostAndTaxed$Reader", "acceptWalker", "(LLostAndTaxed$Town;)Z"⟩, 3), (⟨"LostAndTaxed$Walkers", "add", "(III)V"⟩, 5)]
theorem lw_r1 : ∀ q ∈ lw_privs_1, lw_okq q := List.forall_mem_cons.mpr ⟨lw_p0, List.forall_mem_cons.mpr ⟨lw_p1, List.forall_mem_cons.mpr ⟨lw_p2, List.forall_mem_cons.mpr ⟨lw_p3, List.forall_mem_cons.mpr ⟨lw_p4, List.forall_mem_cons.mpr ⟨lw_p5, List.forall_mem_cons.mpr ⟨lw_p6, List.forall_mem_cons.mpr ⟨lw_p7, List.forall_mem_cons.mpr ⟨lw_p8, List.forall_mem_cons.mpr ⟨lw_p9, List.forall_mem_cons.mpr ⟨lw_p10, List.forall_mem_cons.mpr ⟨lw_p11, List.forall_mem_cons.mpr ⟨lw_p12, List.forall_mem_cons.mpr ⟨lw_p13, List.forall_mem_cons.mpr ⟨lw_p14, List.forall_mem_cons.mpr ⟨lw_p15, fun _ h => absurd h List.not_mem_nil⟩⟩⟩⟩⟩⟩⟩⟩⟩⟩⟩⟩⟩⟩⟩⟩
theorem lw_p16 : lw_okq (⟨"LostAndTaxed$Reader", "acceptRates", "(LLostAndTaxed$Town;)Z"⟩, 3) := ⟨⟨by decide +kernel, by decide +kernel⟩, List.mem_of_getElem? (i := 46) (by decide +kernel), List.mem_of_getElem? (i := 441) (by decide +kernel), List.mem_of_getElem? (i := 442) (by decide +kernel)⟩
theorem lw_p17 : lw_okq (⟨"LostAndTaxed$Streets", "measure", "([[II)V"⟩, 6) := ⟨⟨by decide +kernel, by decide +kernel⟩, List.mem_of_getElem? (i := 69) (by decide +kernel), List.mem_of_getElem? (i := 445) (by decide +kernel), List.mem_of_getElem? (i := 446) (by decide +kernel)⟩
theorem lw_p18 : lw_okq (⟨"LostAndTaxed$Streets", "shortenBy", "([[II)V"⟩, 6) := ⟨⟨by decide +kernel, by decide +kernel⟩, List.mem_of_getElem? (i := 69) (by decide +kernel), List.mem_of_getElem? (i := 449) (by decide +kernel), List.mem_of_getElem? (i := 450) (by decide +kernel)⟩
theorem lw_p19 : lw_okq (⟨"LostAndTaxed$Changes", "clear", "()V"⟩, 7) := ⟨⟨by decide +kernel, by decide +kernel⟩, List.mem_of_getElem? (i := 234) (by decide +kernel), List.mem_of_getElem? (i := 453) (by decide +kernel), List.mem_of_getElem? (i := 454) (by decide +kernel)⟩
theorem lw_p20 : lw_okq (⟨"LostAndTaxed", "isCorner", "(I)Z"⟩, 13) := ⟨⟨by decide +kernel, by decide +kernel⟩, List.mem_of_getElem? (i := 22) (by decide +kernel), List.mem_of_getElem? (i := 516) (by decide +kernel), List.mem_of_getElem? (i := 517) (by decide +kernel)⟩
theorem lw_p21 : lw_okq (⟨"LostAndTaxed", "isSign", "(I)Z"⟩, 13) := ⟨⟨by decide +kernel, by decide +kernel⟩, List.mem_of_getElem? (i := 22) (by decide +kernel), List.mem_of_getElem? (i := 529) (by decide +kernel), List.mem_of_getElem? (i := 530) (by decide +kernel)⟩
theorem lw_p22 : lw_okq (⟨"LostAndTaxed", "isWalker", "(I)Z"⟩, 13) := ⟨⟨by decide +kernel, by decide +kernel⟩, List.mem_of_getElem? (i := 22) (by decide +kernel), List.mem_of_getElem? (i := 537) (by decide +kernel), List.mem_of_getElem? (i := 538) (by decide +kernel)⟩
theorem lw_p23 : lw_okq (⟨"LostAndTaxed", "send", "(I)V"⟩, 13) := ⟨⟨by decide +kernel, by decide +kernel⟩, List.mem_of_getElem? (i := 22) (by decide +kernel), List.mem_of_getElem? (i := 545) (by decide +kernel), List.mem_of_getElem? (i := 546) (by decide +kernel)⟩
theorem lw_p24 : lw_okq (⟨"LostAndTaxed$Trip", "make", "(LLostAndTaxed$Town;LLostAndTaxed$Signs;IIII)V"⟩, 7) := ⟨⟨by decide +kernel, by decide +kernel⟩, List.mem_of_getElem? (i := 198) (by decide +kernel), List.mem_of_getElem? (i := 549) (by decide +kernel), List.mem_of_getElem? (i := 550) (by decide +kernel)⟩
theorem lw_p25 : lw_okq (⟨"LostAndTaxed$Streets", "towards", "(II)I"⟩, 6) := ⟨⟨by decide +kernel, by decide +kernel⟩, List.mem_of_getElem? (i := 69) (by decide +kernel), List.mem_of_getElem? (i := 556) (by decide +kernel), List.mem_of_getElem? (i := 557) (by decide +kernel)⟩
theorem lw_p26 : lw_okq (⟨"LostAndTaxed$Streets", "leadsOn", "(III)Z"⟩, 6) := ⟨⟨by decide +kernel, by decide +kernel⟩, List.mem_of_getElem? (i := 69) (by decide +kernel), List.mem_of_getElem? (i := 560) (by decide +kernel), List.mem_of_getElem? (i := 561) (by decide +kernel)⟩
theorem lw_p27 : lw_okq (⟨"LostAndTaxed$Signs", "latestFor", "(II)I"⟩, 4) := ⟨⟨by decide +kernel, by decide +kernel⟩, List.mem_of_getElem? (i := 104) (by decide +kernel), List.mem_of_getElem? (i := 564) (by decide +kernel), List.mem_of_getElem? (i := 565) (by decide +kernel)⟩
theorem lw_p28 : lw_okq (⟨"LostAndTaxed$Streets", "firstBut", "(II)I"⟩, 6) := ⟨⟨by decide +kernel, by decide +kernel⟩, List.mem_of_getElem? (i := 69) (by decide +kernel), List.mem_of_getElem? (i := 571) (by decide +kernel), List.mem_of_getElem? (i := 572) (by decide +kernel)⟩
theorem lw_p29 : lw_okq (⟨"LostAndTaxed$Streets", "lastBut", "(II)I"⟩, 6) := ⟨⟨by decide +kernel, by decide +kernel⟩, List.mem_of_getElem? (i := 69) (by decide +kernel), List.mem_of_getElem? (i := 575) (by decide +kernel), List.mem_of_getElem? (i := 576) (by decide +kernel)⟩
theorem lw_p30 : lw_okq (⟨"LostAndTaxed$Trip", "placeBehind", "(I)I"⟩, 7) := ⟨⟨by decide +kernel, by decide +kernel⟩, List.mem_of_getElem? (i := 198) (by decide +kernel), List.mem_of_getElem? (i := 580) (by decide +kernel), List.mem_of_getElem? (i := 581) (by decide +kernel)⟩
theorem lw_p31 : lw_okq (⟨"LostAndTaxed$Trip", "firstRepeat", "()I"⟩, 7) := ⟨⟨by decide +kernel, by decide +kernel⟩, List.mem_of_getElem? (i := 198) (by decide +kernel), List.mem_of_getElem? (i := 598) (by decide +kernel), List.mem_of_getElem? (i := 599) (by decide +kernel)⟩
def lw_privs_2 : List (MethodName × Nat) := [(⟨"LostAndTaxed$Reader", "acceptRates", "(LLostAndTaxed$Town;)Z"⟩, 3), (⟨"LostAndTaxed$Streets", "measure", "([[II)V"⟩, 6), (⟨"LostAndTaxed$Streets", "shortenBy", "([[II)V"⟩, 6), (⟨"LostAndTaxed$Changes", "clear", "()V"⟩, 7), (⟨"LostAndTaxed", "isCorner", "(I)Z"⟩, 13), (⟨"LostAndTaxed", "isSign", "(I)Z"⟩, 13), (⟨"LostAndTaxed", "isWalker", "(I)Z"⟩, 13), (⟨"LostAndTaxed", "send", "(I)V"⟩, 13), (⟨"LostAndTaxed$Trip", "make", "(LLostAndTaxed$Town;LLostAndTaxed$Signs;IIII)V"⟩, 7), (⟨"LostAndTaxed$Streets", "towards", "(II)I"⟩, 6), (⟨"LostAndTaxed$Streets", "leadsOn", "(III)Z"⟩, 6), (⟨"LostAndTaxed$Signs", "latestFor", "(II)I"⟩, 4), (⟨"LostAndTaxed$Streets", "firstBut", "(II)I"⟩, 6), (⟨"LostAndTaxed$Streets", "lastBut", "(II)I"⟩, 6), (⟨"LostAndTaxed$Trip", "placeBehind", "(I)I"⟩, 7), (⟨"LostAndTaxed$Trip", "firstRepeat", "()I"⟩, 7)]
theorem lw_r2 : ∀ q ∈ lw_privs_2, lw_okq q := List.forall_mem_cons.mpr ⟨lw_p16, List.forall_mem_cons.mpr ⟨lw_p17, List.forall_mem_cons.mpr ⟨lw_p18, List.forall_mem_cons.mpr ⟨lw_p19, List.forall_mem_cons.mpr ⟨lw_p20, List.forall_mem_cons.mpr ⟨lw_p21, List.forall_mem_cons.mpr ⟨lw_p22, List.forall_mem_cons.mpr ⟨lw_p23, List.forall_mem_cons.mpr ⟨lw_p24, List.forall_mem_cons.mpr ⟨lw_p25, List.forall_mem_cons.mpr ⟨lw_p26, List.forall_mem_cons.mpr ⟨lw_p27, List.forall_mem_cons.mpr ⟨lw_p28, List.forall_mem_cons.mpr ⟨lw_p29, List.forall_mem_cons.mpr ⟨lw_p30, List.forall_mem_cons.mpr ⟨lw_p31, fun _ h => absurd h List.not_mem_nil⟩⟩⟩⟩⟩⟩⟩⟩⟩⟩⟩⟩⟩⟩⟩⟩
theorem lw_p32 : lw_okq (⟨"LostAndTaxed", "taxBy", "(LLostAndTaxed$Signs;)I"⟩, 13) := ⟨⟨by decide +kernel, by decide +kernel⟩, List.mem_of_getElem? (i := 22) (by decide +kernel), List.mem_of_getElem? (i := 606) (by decide +kernel), List.mem_of_getElem? (i := 607) (by decide +kernel)⟩
theorem lw_p33 : lw_okq (⟨"LostAndTaxed$Changes", "note", "(IIIII)V"⟩, 7) := ⟨⟨by decide +kernel, by decide +kernel⟩, List.mem_of_getElem? (i := 234) (by decide +kernel), List.mem_of_getElem? (i := 614) (by decide +kernel), List.mem_of_getElem? (i := 615) (by decide +kernel)⟩
theorem lw_p34 : lw_okq (⟨"LostAndTaxed$Signs", "remove", "(I)V"⟩, 4) := ⟨⟨by decide +kernel, by decide +kernel⟩, List.mem_of_getElem? (i := 104) (by decide +kernel), List.mem_of_getElem? (i := 623) (by decide +kernel), List.mem_of_getElem? (i := 624) (by decide +kernel)⟩
theorem lw_p35 : lw_okq (⟨"LostAndTaxed$Changes", "revertLatest", "(LLostAndTaxed$Town;)V"⟩, 7) := ⟨⟨by decide +kernel, by decide +kernel⟩, List.mem_of_getElem? (i := 234) (by decide +kernel), List.mem_of_getElem? (i := 635) (by decide +kernel), List.mem_of_getElem? (i := 636) (by decide +kernel)⟩
theorem lw_p36 : lw_okq (⟨"LostAndTaxed$Pick", "clear", "()V"⟩, 2) := ⟨⟨by decide +kernel, by decide +kernel⟩, List.mem_of_getElem? (i := 304) (by decide +kernel), List.mem_of_getElem? (i := 650) (by decide +kernel), List.mem_of_getElem? (i := 651) (by decide +kernel)⟩
theorem lw_p37 : lw_okq (⟨"LostAndTaxed$Signs", "copyFrom", "(LLostAndTaxed$Signs;)V"⟩, 4) := ⟨⟨by decide +kernel, by decide +kernel⟩, List.mem_of_getElem? (i := 104) (by decide +kernel), List.mem_of_getElem? (i := 654) (by decide +kernel), List.mem_of_getElem? (i := 655) (by decide +kernel)⟩
theorem lw_p38 : lw_okq (⟨"LostAndTaxed$Walkers", "anyStrangerTo", "(I)Z"⟩, 5) := ⟨⟨by decide +kernel, by decide +kernel⟩, List.mem_of_getElem? (i := 129) (by decide +kernel), List.mem_of_getElem? (i := 661) (by decide +kernel), List.mem_of_getElem? (i := 662) (by decide +kernel)⟩
theorem lw_p39 : lw_okq (⟨"LostAndTaxed", "offerLures", "(III)V"⟩, 13) := ⟨⟨by decide +kernel, by decide +kernel⟩, List.mem_of_getElem? (i := 22) (by decide +kernel), List.mem_of_getElem? (i := 665) (by decide +kernel), List.mem_of_getElem? (i := 666) (by decide +kernel)⟩
theorem lw_p40 : lw_okq (⟨"LostAndTaxed$Pick", "offerMost", "(II)V"⟩, 2) := ⟨⟨by decide +kernel, by decide +kernel⟩, List.mem_of_getElem? (i := 304) (by decide +kernel), List.mem_of_getElem? (i := 669) (by decide +kernel), List.mem_of_getElem? (i := 670) (by decide +kernel)⟩
theorem lw_p41 : lw_okq (⟨"LostAndTaxed$Pick", "answer", "(I)I"⟩, 2) := ⟨⟨by decide +kernel, by decide +kernel⟩, List.mem_of_getElem? (i := 304) (by decide +kernel), List.mem_of_getElem? (i := 673) (by decide +kernel), List.mem_of_getElem? (i := 674) (by decide +kernel)⟩
theorem lw_p42 : lw_okq (⟨"LostAndTaxed$Pick", "offerLeast", "(II)V"⟩, 2) := ⟨⟨by decide +kernel, by decide +kernel⟩, List.mem_of_getElem? (i := 304) (by decide +kernel), List.mem_of_getElem? (i := 681) (by decide +kernel), List.mem_of_getElem? (i := 682) (by decide +kernel)⟩
theorem lw_p43 : lw_okq (⟨"LostAndTaxed$Trip", "tallyWrong", "([I)V"⟩, 7) := ⟨⟨by decide +kernel, by decide +kernel⟩, List.mem_of_getElem? (i := 198) (by decide +kernel), List.mem_of_getElem? (i := 694) (by decide +kernel), List.mem_of_getElem? (i := 695) (by decide +kernel)⟩
theorem lw_p44 : lw_okq (⟨"LostAndTaxed$Town", "minutesToAims", "([[I)I"⟩, 6) := ⟨⟨by decide +kernel, by decide +kernel⟩, List.mem_of_getElem? (i := 63) (by decide +kernel), List.mem_of_getElem? (i := 702) (by decide +kernel), List.mem_of_getElem? (i := 703) (by decide +kernel)⟩
theorem lw_p45 : lw_okq (⟨"LostAndTaxed$Sightings", "add", "(III)V"⟩, 4) := ⟨⟨by decide +kernel, by decide +kernel⟩, List.mem_of_getElem? (i := 284) (by decide +kernel), List.mem_of_getElem? (i := 710) (by decide +kernel), List.mem_of_getElem? (i := 711) (by decide +kernel)⟩
theorem lw_p46 : lw_okq (⟨"LostAndTaxed$Sightings", "fit", "(ILLostAndTaxed$Trip;)Z"⟩, 4) := ⟨⟨by decide +kernel, by decide +kernel⟩, List.mem_of_getElem? (i := 284) (by decide +kernel), List.mem_of_getElem? (i := 722) (by decide +kernel), List.mem_of_getElem? (i := 723) (by decide +kernel)⟩
theorem lw_p47 : lw_okq (⟨"LostAndTaxed", "taxOfSet", "(II)I"⟩, 13) := ⟨⟨by decide +kernel, by decide +kernel⟩, List.mem_of_getElem? (i := 22) (by decide +kernel), List.mem_of_getElem? (i := 731) (by decide +kernel), List.mem_of_getElem? (i := 732) (by decide +kernel)⟩
def lw_privs_3 : List (MethodName × Nat) := [(⟨"LostAndTaxed", "taxBy", "(LLostAndTaxed$Signs;)I"⟩, 13), (⟨"LostAndTaxed$Changes", "note", "(IIIII)V"⟩, 7), (⟨"LostAndTaxed$Signs", "remove", "(I)V"⟩, 4), (⟨"LostAndTaxed$Changes", "revertLatest", "(LLostAndTaxed$Town;)V"⟩, 7), (⟨"LostAndTaxed$Pick", "clear", "()V"⟩, 2), (⟨"LostAndTaxed$Signs", "copyFrom", "(LLostAndTaxed$Signs;)V"⟩, 4), (⟨"LostAndTaxed$Walkers", "anyStrangerTo", "(I)Z"⟩, 5), (⟨"LostAndTaxed", "offerLures", "(III)V"⟩, 13), (⟨"LostAndTaxed$Pick", "offerMost", "(II)V"⟩, 2), (⟨"LostAndTaxed$Pick", "answer", "(I)I"⟩, 2), (⟨"LostAndTaxed$Pick", "offerLeast", "(II)V"⟩, 2), (⟨"LostAndTaxed$Trip", "tallyWrong", "([I)V"⟩, 7), (⟨"LostAndTaxed$Town", "minutesToAims", "([[I)I"⟩, 6), (⟨"LostAndTaxed$Sightings", "add", "(III)V"⟩, 4), (⟨"LostAndTaxed$Sightings", "fit", "(ILLostAndTaxed$Trip;)Z"⟩, 4), (⟨"LostAndTaxed", "taxOfSet", "(II)I"⟩, 13)]
theorem lw_r3 : ∀ q ∈ lw_privs_3, lw_okq q := List.forall_mem_cons.mpr ⟨lw_p32, List.forall_mem_cons.mpr ⟨lw_p33, List.forall_mem_cons.mpr ⟨lw_p34, List.forall_mem_cons.mpr ⟨lw_p35, List.forall_mem_cons.mpr ⟨lw_p36, List.forall_mem_cons.mpr ⟨lw_p37, List.forall_mem_cons.mpr ⟨lw_p38, List.forall_mem_cons.mpr ⟨lw_p39, List.forall_mem_cons.mpr ⟨lw_p40, List.forall_mem_cons.mpr ⟨lw_p41, List.forall_mem_cons.mpr ⟨lw_p42, List.forall_mem_cons.mpr ⟨lw_p43, List.forall_mem_cons.mpr ⟨lw_p44, List.forall_mem_cons.mpr ⟨lw_p45, List.forall_mem_cons.mpr ⟨lw_p46, List.forall_mem_cons.mpr ⟨lw_p47, fun _ h => absurd h List.not_mem_nil⟩⟩⟩⟩⟩⟩⟩⟩⟩⟩⟩⟩⟩⟩⟩⟩
theorem lw_p48 : lw_okq (⟨"LostAndTaxed", "turnSigns", "(II)V"⟩, 13) := ⟨⟨by decide +kernel, by decide +kernel⟩, List.mem_of_getElem? (i := 22) (by decide +kernel), List.mem_of_getElem? (i := 743) (by decide +kernel), List.mem_of_getElem? (i := 744) (by decide +kernel)⟩
theorem lw_p49 : lw_okq (⟨"LostAndTaxed$Shelf", "store", "(LLostAndTaxed$Town;)V"⟩, 3) := ⟨⟨by decide +kernel, by decide +kernel⟩, List.mem_of_getElem? (i := 263) (by decide +kernel), List.mem_of_getElem? (i := 766) (by decide +kernel), List.mem_of_getElem? (i := 767) (by decide +kernel)⟩
theorem lw_p50 : lw_okq (⟨"LostAndTaxed$Shelf", "restoreLast", "(LLostAndTaxed$Town;)V"⟩, 3) := ⟨⟨by decide +kernel, by decide +kernel⟩, List.mem_of_getElem? (i := 263) (by decide +kernel), List.mem_of_getElem? (i := 776) (by decide +kernel), List.mem_of_getElem? (i := 777) (by decide +kernel)⟩
theorem lw_p51 : lw_okq (⟨"LostAndTaxedModel", "firstStreet", "(III)V"⟩, 34) := ⟨⟨by decide +kernel, by decide +kernel⟩, List.mem_of_getElem? (i := 784) (by decide +kernel), List.mem_of_getElem? (i := 790) (by decide +kernel), List.mem_of_getElem? (i := 791) (by decide +kernel)⟩
theorem lw_p52 : lw_okq (⟨"LostAndTaxedModel", "firstSign", "(III)V"⟩, 34) := ⟨⟨by decide +kernel, by decide +kernel⟩, List.mem_of_getElem? (i := 784) (by decide +kernel), List.mem_of_getElem? (i := 794) (by decide +kernel), List.mem_of_getElem? (i := 795) (by decide +kernel)⟩
theorem lw_p53 : lw_okq (⟨"LostAndTaxedModel", "firstWalker", "(III)V"⟩, 34) := ⟨⟨by decide +kernel, by decide +kernel⟩, List.mem_of_getElem? (i := 784) (by decide +kernel), List.mem_of_getElem? (i := 798) (by decide +kernel), List.mem_of_getElem? (i := 799) (by decide +kernel)⟩
theorem lw_p54 : lw_okq (⟨"LostAndTaxedModel", "firstRates", "(III)V"⟩, 34) := ⟨⟨by decide +kernel, by decide +kernel⟩, List.mem_of_getElem? (i := 784) (by decide +kernel), List.mem_of_getElem? (i := 802) (by decide +kernel), List.mem_of_getElem? (i := 803) (by decide +kernel)⟩
theorem lw_p55 : lw_okq (⟨"LostAndTaxedModel", "takeDraft", "()V"⟩, 34) := ⟨⟨by decide +kernel, by decide +kernel⟩, List.mem_of_getElem? (i := 784) (by decide +kernel), List.mem_of_getElem? (i := 806) (by decide +kernel), List.mem_of_getElem? (i := 807) (by decide +kernel)⟩
theorem lw_p56 : lw_okq (⟨"LostAndTaxedModel", "measure", "(I)V"⟩, 34) := ⟨⟨by decide +kernel, by decide +kernel⟩, List.mem_of_getElem? (i := 784) (by decide +kernel), List.mem_of_getElem? (i := 810) (by decide +kernel), List.mem_of_getElem? (i := 811) (by decide +kernel)⟩
theorem lw_p57 : lw_okq (⟨"LostAndTaxedModel", "readItem", "()V"⟩, 34) := ⟨⟨by decide +kernel, by decide +kernel⟩, List.mem_of_getElem? (i := 784) (by decide +kernel), List.mem_of_getElem? (i := 932) (by decide +kernel), List.mem_of_getElem? (i := 933) (by decide +kernel)⟩
theorem lw_p58 : lw_okq (⟨"LostAndTaxedModel", "here", "()I"⟩, 34) := ⟨⟨by decide +kernel, by decide +kernel⟩, List.mem_of_getElem? (i := 784) (by decide +kernel), List.mem_of_getElem? (i := 936) (by decide +kernel), List.mem_of_getElem? (i := 937) (by decide +kernel)⟩
theorem lw_p59 : lw_okq (⟨"LostAndTaxedModel", "number", "(III)I"⟩, 34) := ⟨⟨by decide +kernel, by decide +kernel⟩, List.mem_of_getElem? (i := 784) (by decide +kernel), List.mem_of_getElem? (i := 940) (by decide +kernel), List.mem_of_getElem? (i := 941) (by decide +kernel)⟩
theorem lw_p60 : lw_okq (⟨"LostAndTaxedModel", "readStreet", "()V"⟩, 34) := ⟨⟨by decide +kernel, by decide +kernel⟩, List.mem_of_getElem? (i := 784) (by decide +kernel), List.mem_of_getElem? (i := 944) (by decide +kernel), List.mem_of_getElem? (i := 945) (by decide +kernel)⟩
theorem lw_p61 : lw_okq (⟨"LostAndTaxedModel", "corner", "(I)I"⟩, 34) := ⟨⟨by decide +kernel, by decide +kernel⟩, List.mem_of_getElem? (i := 784) (by decide +kernel), List.mem_of_getElem? (i := 948) (by decide +kernel), List.mem_of_getElem? (i := 949) (by decide +kernel)⟩
theorem lw_p62 : lw_okq (⟨"LostAndTaxedModel", "isCorner", "(I)Z"⟩, 34) := ⟨⟨by decide +kernel, by decide +kernel⟩, List.mem_of_getElem? (i := 784) (by decide +kernel), List.mem_of_getElem? (i := 961) (by decide +kernel), List.mem_of_getElem? (i := 962) (by decide +kernel)⟩
theorem lw_p63 : lw_okq (⟨"LostAndTaxedModel", "isSign", "(I)Z"⟩, 34) := ⟨⟨by decide +kernel, by decide +kernel⟩, List.mem_of_getElem? (i := 784) (by decide +kernel), List.mem_of_getElem? (i := 973) (by decide +kernel), List.mem_of_getElem? (i := 974) (by decide +kernel)⟩
def lw_privs_4 : List (MethodName × Nat) := [(⟨"LostAndTaxed", "turnSigns", "(II)V"⟩, 13), (⟨"LostAndTaxed$Shelf", "store", "(LLostAndTaxed$Town;)V"⟩, 3), (⟨"LostAndTaxed$Shelf", "restoreLast", "(LLostAndTaxed$Town;)V"⟩, 3), (⟨"LostAndTaxedModel", "firstStreet", "(III)V"⟩, 34), (⟨"LostAndTaxedModel", "firstSign", "(III)V"⟩, 34), (⟨"LostAndTaxedModel", "firstWalker", "(III)V"⟩, 34), (⟨"LostAndTaxedModel", "firstRates", "(III)V"⟩, 34), (⟨"LostAndTaxedModel", "takeDraft", "()V"⟩, 34), (⟨"LostAndTaxedModel", "measure", "(I)V"⟩, 34), (⟨"LostAndTaxedModel", "readItem", "()V"⟩, 34), (⟨"LostAndTaxedModel", "here", "()I"⟩, 34), (⟨"LostAndTaxedModel", "number", "(III)I"⟩, 34), (⟨"LostAndTaxedModel", "readStreet", "()V"⟩, 34), (⟨"LostAndTaxedModel", "corner", "(I)I"⟩, 34), (⟨"LostAndTaxedModel", "isCorner", "(I)Z"⟩, 34), (⟨"LostAndTaxedModel", "isSign", "(I)Z"⟩, 34)]
theorem lw_r4 : ∀ q ∈ lw_privs_4, lw_okq q := List.forall_mem_cons.mpr ⟨lw_p48, List.forall_mem_cons.mpr ⟨lw_p49, List.forall_mem_cons.mpr ⟨lw_p50, List.forall_mem_cons.mpr ⟨lw_p51, List.forall_mem_cons.mpr ⟨lw_p52, List.forall_mem_cons.mpr ⟨lw_p53, List.forall_mem_cons.mpr ⟨lw_p54, List.forall_mem_cons.mpr ⟨lw_p55, List.forall_mem_cons.mpr ⟨lw_p56, List.forall_mem_cons.mpr ⟨lw_p57, List.forall_mem_cons.mpr ⟨lw_p58, List.forall_mem_cons.mpr ⟨lw_p59, List.forall_mem_cons.mpr ⟨lw_p60, List.forall_mem_cons.mpr ⟨lw_p61, List.forall_mem_cons.mpr ⟨lw_p62, List.forall_mem_cons.mpr ⟨lw_p63, fun _ h => absurd h List.not_mem_nil⟩⟩⟩⟩⟩⟩⟩⟩⟩⟩⟩⟩⟩⟩⟩⟩
theorem lw_p64 : lw_okq (⟨"LostAndTaxedModel", "isWalker", "(I)Z"⟩, 34) := ⟨⟨by decide +kernel, by decide +kernel⟩, List.mem_of_getElem? (i := 784) (by decide +kernel), List.mem_of_getElem? (i := 981) (by decide +kernel), List.mem_of_getElem? (i := 982) (by decide +kernel)⟩
theorem lw_p65 : lw_okq (⟨"LostAndTaxedModel", "goAs", "(II)V"⟩, 34) := ⟨⟨by decide +kernel, by decide +kernel⟩, List.mem_of_getElem? (i := 784) (by decide +kernel), List.mem_of_getElem? (i := 989) (by decide +kernel), List.mem_of_getElem? (i := 990) (by decide +kernel)⟩
theorem lw_p66 : lw_okq (⟨"LostAndTaxedModel", "go", "(IIIII)V"⟩, 34) := ⟨⟨by decide +kernel, by decide +kernel⟩, List.mem_of_getElem? (i := 784) (by decide +kernel), List.mem_of_getElem? (i := 993) (by decide +kernel), List.mem_of_getElem? (i := 994) (by decide +kernel)⟩
theorem lw_p67 : lw_okq (⟨"LostAndTaxedModel", "nextOf", "(IIIII)I"⟩, 34) := ⟨⟨by decide +kernel, by decide +kernel⟩, List.mem_of_getElem? (i := 784) (by decide +kernel), List.mem_of_getElem? (i := 997) (by decide +kernel), List.mem_of_getElem? (i := 998) (by decide +kernel)⟩
theorem lw_p68 : lw_okq (⟨"LostAndTaxedModel", "strangerStep", "(IIII)I"⟩, 34) := ⟨⟨by decide +kernel, by decide +kernel⟩, List.mem_of_getElem? (i := 784) (by decide +kernel), List.mem_of_getElem? (i := 1001) (by decide +kernel), List.mem_of_getElem? (i := 1002) (by decide +kernel)⟩
theorem lw_p69 : lw_okq (⟨"LostAndTaxedModel", "onFrom", "(IIZ)I"⟩, 34) := ⟨⟨by decide +kernel, by decide +kernel⟩, List.mem_of_getElem? (i := 784) (by decide +kernel), List.mem_of_getElem? (i := 1005) (by decide +kernel), List.mem_of_getElem? (i := 1006) (by decide +kernel)⟩
theorem lw_p70 : lw_okq (⟨"LostAndTaxedModel", "nativeStep", "(II)I"⟩, 34) := ⟨⟨by decide +kernel, by decide +kernel⟩, List.mem_of_getElem? (i := 784) (by decide +kernel), List.mem_of_getElem? (i := 1009) (by decide +kernel), List.mem_of_getElem? (i := 1010) (by decide +kernel)⟩
theorem lw_p71 : lw_okq (⟨"LostAndTaxedModel", "isOnWay", "(III)Z"⟩, 34) := ⟨⟨by decide +kernel, by decide +kernel⟩, List.mem_of_getElem? (i := 784) (by decide +kernel), List.mem_of_getElem? (i := 1013) (by decide +kernel), List.mem_of_getElem? (i := 1014) (by decide +kernel)⟩
theorem lw_p72 : lw_okq (⟨"LostAndTaxedModel", "cameTo", "(I)I"⟩, 34) := ⟨⟨by decide +kernel, by decide +kernel⟩, List.mem_of_getElem? (i := 784) (by decide +kernel), List.mem_of_getElem? (i := 1025) (by decide +kernel), List.mem_of_getElem? (i := 1026) (by decide +kernel)⟩
theorem lw_p73 : lw_okq (⟨"LostAndTaxedModel", "taxBy", "(I)I"⟩, 34) := ⟨⟨by decide +kernel, by decide +kernel⟩, List.mem_of_getElem? (i := 784) (by decide +kernel), List.mem_of_getElem? (i := 1033) (by decide +kernel), List.mem_of_getElem? (i := 1034) (by decide +kernel)⟩
theorem lw_p74 : lw_okq (⟨"LostAndTaxedModel", "know", "()V"⟩, 34) := ⟨⟨by decide +kernel, by decide +kernel⟩, List.mem_of_getElem? (i := 784) (by decide +kernel), List.mem_of_getElem? (i := 1041) (by decide +kernel), List.mem_of_getElem? (i := 1042) (by decide +kernel)⟩
theorem lw_p75 : lw_okq (⟨"LostAndTaxedModel", "copy", "(II)V"⟩, 34) := ⟨⟨by decide +kernel, by decide +kernel⟩, List.mem_of_getElem? (i := 784) (by decide +kernel), List.mem_of_getElem? (i := 1045) (by decide +kernel), List.mem_of_getElem? (i := 1046) (by decide +kernel)⟩
theorem lw_p76 : lw_okq (⟨"LostAndTaxedModel", "putUp", "(IIII)V"⟩, 34) := ⟨⟨by decide +kernel, by decide +kernel⟩, List.mem_of_getElem? (i := 784) (by decide +kernel), List.mem_of_getElem? (i := 1049) (by decide +kernel), List.mem_of_getElem? (i := 1050) (by decide +kernel)⟩
theorem lw_p77 : lw_okq (⟨"LostAndTaxedModel", "takeDown", "(II)V"⟩, 34) := ⟨⟨by decide +kernel, by decide +kernel⟩, List.mem_of_getElem? (i := 784) (by decide +kernel), List.mem_of_getElem? (i := 1057) (by decide +kernel), List.mem_of_getElem? (i := 1058) (by decide +kernel)⟩
theorem lw_p78 : lw_okq (⟨"LostAndTaxedModel", "moreWithout", "(I)I"⟩, 34) := ⟨⟨by decide +kernel, by decide +kernel⟩, List.mem_of_getElem? (i := 784) (by decide +kernel), List.mem_of_getElem? (i := 1093) (by decide +kernel), List.mem_of_getElem? (i := 1094) (by decide +kernel)⟩
theorem lw_p79 : lw_okq (⟨"LostAndTaxedModel", "turned", "(II)I"⟩, 34) := ⟨⟨by decide +kernel, by decide +kernel⟩, List.mem_of_getElem? (i := 784) (by decide +kernel), List.mem_of_getElem? (i := 1117) (by decide +kernel), List.mem_of_getElem? (i := 1118) (by decide +kernel)⟩
def lw_privs_5 : List (MethodName × Nat) := [(⟨"LostAndTaxedModel", "isWalker", "(I)Z"⟩, 34), (⟨"LostAndTaxedModel", "goAs", "(II)V"⟩, 34), (⟨"LostAndTaxedModel", "go", "(IIIII)V"⟩, 34), (⟨"LostAndTaxedModel", "nextOf", "(IIIII)I"⟩, 34), (⟨"LostAndTaxedModel", "strangerStep", "(IIII)I"⟩, 34), (⟨"LostAndTaxedModel", "onFrom", "(IIZ)I"⟩, 34), (⟨"LostAndTaxedModel", "nativeStep", "(II)I"⟩, 34), (⟨"LostAndTaxedModel", "isOnWay", "(III)Z"⟩, 34), (⟨"LostAndTaxedModel", "cameTo", "(I)I"⟩, 34), (⟨"LostAndTaxedModel", "taxBy", "(I)I"⟩, 34), (⟨"LostAndTaxedModel", "know", "()V"⟩, 34), (⟨"LostAndTaxedModel", "copy", "(II)V"⟩, 34), (⟨"LostAndTaxedModel", "putUp", "(IIII)V"⟩, 34), (⟨"LostAndTaxedModel", "takeDown", "(II)V"⟩, 34), (⟨"LostAndTaxedModel", "moreWithout", "(I)I"⟩, 34), (⟨"LostAndTaxedModel", "turned", "(II)I"⟩, 34)]
theorem lw_r5 : ∀ q ∈ lw_privs_5, lw_okq q := List.forall_mem_cons.mpr ⟨lw_p64, List.forall_mem_cons.mpr ⟨lw_p65, List.forall_mem_cons.mpr ⟨lw_p66, List.forall_mem_cons.mpr ⟨lw_p67, List.forall_mem_cons.mpr ⟨lw_p68, List.forall_mem_cons.mpr ⟨lw_p69, List.forall_mem_cons.mpr ⟨lw_p70, List.forall_mem_cons.mpr ⟨lw_p71, List.forall_mem_cons.mpr ⟨lw_p72, List.forall_mem_cons.mpr ⟨lw_p73, List.forall_mem_cons.mpr ⟨lw_p74, List.forall_mem_cons.mpr ⟨lw_p75, List.forall_mem_cons.mpr ⟨lw_p76, List.forall_mem_cons.mpr ⟨lw_p77, List.forall_mem_cons.mpr ⟨lw_p78, List.forall_mem_cons.mpr ⟨lw_p79, fun _ h => absurd h List.not_mem_nil⟩⟩⟩⟩⟩⟩⟩⟩⟩⟩⟩⟩⟩⟩⟩⟩
def lw_privs : List (MethodName × Nat) := lw_privs_1 ++ (lw_privs_2 ++ (lw_privs_3 ++ (lw_privs_4 ++ (lw_privs_5))))
def lw_tbl : List Cond := k2_sels lw_privs ++ tables_1
theorem lw_privs_ok : ∀ q ∈ lw_privs, lw_okq q := by
  show ∀ q ∈ lw_privs_1 ++ (lw_privs_2 ++ (lw_privs_3 ++ (lw_privs_4 ++ (lw_privs_5)))), lw_okq q
  exact List.forall_mem_append.mpr ⟨lw_r1, List.forall_mem_append.mpr ⟨lw_r2, List.forall_mem_append.mpr ⟨lw_r3, List.forall_mem_append.mpr ⟨lw_r4, lw_r5⟩⟩⟩⟩
end
section
/-! ===== BEGIN words of one list among another's, by their places ===== -/
theorem goodIn_r {big : List Cond} (ws : List Cond) (ps : List Nat) (hp : ws = ps.filterMap (fun i => big[i]?)) (h : ws.all goodWord = true) : GoodIn big ws := by
  intro w hw
  have h1 := List.all_eq_true.mp h w hw
  rw [hp] at hw
  obtain ⟨i, -, hi⟩ := List.mem_filterMap.mp hw
  have hm : w ∈ big := by first | exact List.mem_of_getElem? hi | exact List.getElem?_mem hi
  exact ⟨hm, good_of_word h1⟩
theorem goodIn_app {big a b : List Cond} (ha : GoodIn big a) (hb : GoodIn big b) : GoodIn big (a ++ b) := fun w h => (List.mem_append.mp h).elim (ha w) (hb w)
theorem goodIn_ca {big a b : List Cond} {c : Cond} (ha : GoodIn big (c :: a)) (hb : GoodIn big b) : GoodIn big (c :: (a ++ b)) := fun w h => (List.mem_cons.mp h).elim (fun e => ha w (List.mem_cons.mpr (Or.inl e))) (fun h => (List.mem_append.mp h).elim (fun h => ha w (List.mem_cons.mpr (Or.inr h))) (hb w))
theorem goodIn_sub {big ws : List Cond} (hm : ∀ w ∈ ws, w ∈ big) (h : ws.all goodWord = true) : GoodIn big ws := fun w hw => ⟨hm w hw, good_of_word (List.all_eq_true.mp h w hw)⟩
/-! ===== END ===== -/

def va_AOA (t : FieldType) (U : State) : Prop := (Cond.arrayOver (.array t)).before #[] U = true
theorem va_AOA.use {t : FieldType} {A : Array Value} {U : State} (h : va_AOA t U) : (Cond.arrayOver (.array t)).before A U = true := h
/-! ===== BEGIN new T[n][m]: the outer array a place, the inner ones among the pooled ===== -/
/-- f, but v at every address of l -/
def vr_up {α : Type} (f : Nat → α) (l : List Nat) (v : α) : Nat → α := fun a => if a ∈ l then v else f a
theorem vr_up_in {α : Type} {f : Nat → α} {l : List Nat} {v : α} {a : Nat} (h : a ∈ l) : vr_up f l v a = v := if_pos h
theorem vr_up_ne {α : Type} {f : Nat → α} {l : List Nat} {v : α} {a : Nat} (h : a ∉ l) : vr_up f l v a = f a := if_neg h
theorem vr_rows {L l : List Nat} {f : Nat → va_E} {e : va_E} (h : ∀ a, a ∈ l → a ∉ L) : va_pl L f ++ l.map (fun a => (a, e)) = va_pl (L ++ l) (vr_up f l e) := by
  unfold va_pl
  rw [List.map_append]
  congr 1
  · apply List.map_congr_left
    intro a ha
    rw [vr_up_ne (fun q => h a q ha)]
  · apply List.map_congr_left
    intro a ha
    rw [vr_up_in ha]
theorem vr_lay {X rows : va_W} {x : Nat × va_E} {pl : va_W} {D : va_G} {cl : List vw_C} {H : Heap} (hP : va_P D cl (((X ++ pl) ++ [x]) ++ rows) H) : va_P D cl ((X ++ [x]) ++ (pl ++ rows)) H := by
  rw [List.append_assoc (X ++ pl)] at hP
  have h := va_P.swap hP
  rw [← List.append_assoc X] at h
  have h2 := va_P.swap h
  rw [List.append_assoc (X ++ [x])] at h2
  exact h2
theorem vr_layD {X rows : va_W} {x : Nat × va_E} {pl : va_W} {A : Nat → Prop} (hD : va_D A (((X ++ pl) ++ [x]) ++ rows)) : va_D A ((X ++ [x]) ++ (pl ++ rows)) := by
  rw [List.append_assoc (X ++ pl)] at hD
  have h := va_D.swap hD
  rw [← List.append_assoc X] at h
  have h2 := va_D.swap h
  rw [List.append_assoc (X ++ [x])] at h2
  exact h2
theorem vr_outer (c : ClassId) (N h0 : Nat) : ∀ i : Nat, Jvm.Free.Multi.outerC c N h0 i = arrV c N (fun j => va_rf (if j < i then some (h0 + 1 + j) else none))
  | 0 => by
    show ({ cls := c, slots := Array.replicate N .null, vm := .none } : Cell) = _
    rw [arrV_new]
    refine congrArg (arrV c N) (funext fun j => ?_)
    simp [va_rf]
  | i + 1 => by
    show (Jvm.Free.Multi.outerC c N h0 i).setSlot i (.ref (h0 + 1 + i)) = _
    rw [vr_outer c N h0 i, arrV_store]
    refine congrArg (arrV c N) (funext fun j => ?_)
    by_cases e : j = i
    · subst e
      simp [updV, va_rf]
    · by_cases h : j < i
      · simp [updV, e, h, Nat.lt_succ_of_lt h]
      · simp [updV, e, h, show ¬ j < i + 1 by omega]
section VGM
variable {p : Program} {l : Launch} {e : Env} {R : Room} {s : State} {m : MethodId} {args : Array Value} {below : List Frame} {meth : Method} {c : Code} {H : Heap} {locs : List Loc} {cells slots : Nat} {Q : State → Prop}
variable {cc : ByteArray} {pc : Nat} {ls : Array Slot} {rest : List Value} {D : va_G} {cl : List vw_C} {A : Nat → Prop} {a : Nat} {tys : List (ClassId × FieldType)} {ws : va_W} {H0 : Heap}
theorem va_mna {X : va_W} {L : List Nat} {f : Nat → va_E} {cc : ByteArray} (hexec : p.tables.exec = Jvm.exec) (hb : c.code = cc) {own : String} {index : Nat} {ty : FieldType} {cy : ClassId} (hown : s.vm.findClass own = some m.cls) (hclink : (Cond.classLink own index ("[" ++ (FieldType.array ty).toString)).before args s = true) (hover : va_AOA ty s) (harr : (Cond.arrayClass ty).before args s = true) (hcy : s.vm.findClass (FieldType.array ty).toString = some cy)
    (hK : va_K D cl tys s) (hP : va_P D cl (X ++ va_pl L f) H) (hD : va_D A (X ++ va_pl L f)) (hS : va_S A H0 H locs) (hA : ∀ q, H0.size ≤ q → A q) {n k : Int32} {N' K' : Nat} {z : vp_A} (hn : ¬ n < 0) (hk : ¬ k < 0) (hN : n.toNatClampNeg = N') (hM : k.toNatClampNeg = K')
    (hb1 : N' * 4 ≤ 536870912) (hb2 : K' * componentBytes ty ≤ 536870912) (hb3 : K' ≤ 536870912) (hdf : fits ty (defaultValue ty) = true) (hdd : (defaultValue ty).isDefault = true) (hcells : cells + (1 + N') ≤ R.cells) (hslots : slots + (N' + N' * K') ≤ R.slots) (hz : ∀ c : ClassId, Jvm.Free.Multi.innerC c K' (defaultValue ty) = vp_cell c z) (hdg : decode cc pc = .ok (.multianewarray index 2, 4))
    (kk : ∀ (q : Nat) (r : Nat → Nat) (cA : ClassId) (H1 : Heap), (∀ i j : Nat, i < N' → j < N' → r i = r j → i = j) → (∀ i : Nat, i < N' → r i ∉ L) → va_K D cl (tys ++ [(cA, .array ty)]) s →
      va_P D cl ((X ++ [(q, .inl (cA, N', .inr (.inr (.inr (.inr (fun i => if i < N' then some (r i) else none))))))]) ++ va_pl (L ++ (List.range N').map r) (vr_up f ((List.range N').map r) (.inl (cy, z)))) H1 → va_D A ((X ++ [(q, .inl (cA, N', .inr (.inr (.inr (.inr (fun i => if i < N' then some (r i) else none))))))]) ++ va_pl (L ++ (List.range N').map r) (vr_up f ((List.range N').map r) (.inl (cy, z)))) → va_S A H0 H1 locs →
      W p l e R s m args below meth c H1 locs (cells + 1 + N') (slots + N' + N' * K') Q (F0 m (pc + 4) ls (.ref q :: rest))) : W p l e R s m args below meth c H locs cells slots Q (F0 m pc ls (.int k :: .int n :: rest)) := by
  subst hN
  subst hM
  intro T hT Xs
  obtain ⟨vm₁, cA, comp, -, fA, fC, hO, -, X', step⟩ := Xs.multianewarray2F hexec hown hclink (va_AOA.use hover) harr (g := F0 m pc ls (.int k :: .int n :: rest)) rfl (by rw [hb]; exact hdg) rfl hn hk hb1 hb2 hb3 hdf hdd hcells hslots
  have ec : some cy = some comp := hcy.symm.trans fC
  cases ec
  generalize hF : Jvm.Free.Multi.fill (T.setVm vm₁) cA cy n.toNatClampNeg k.toNatClampNeg (defaultValue ty) n.toNatClampNeg = F at X' step
  have hTh : (T.setVm vm₁).heap = H := hT
  obtain ⟨f1, f2, -, -⟩ := Jvm.Free.Multi.fill_facts (T.setVm vm₁) cA cy n.toNatClampNeg k.toNatClampNeg (defaultValue ty) n.toNatClampNeg
  rw [hF, hTh] at f1 f2
  have hold : ∀ x : Nat, x < H.size → F.heap[x]? = H[x]? := fun x hx => by
    have := Jvm.Free.Multi.fill_old (T.setVm vm₁) cA cy n.toNatClampNeg k.toNatClampNeg (defaultValue ty) (a := x) (by rw [hTh]; exact hx) n.toNatClampNeg
    rw [hF, hTh] at this
    exact this
  have hrow : ∀ j : Nat, j < n.toNatClampNeg → F.heap[H.size + 1 + j]? = some (vp_cell cy z) := fun j hj => by
    have := Jvm.Free.Multi.fill_inner (T.setVm vm₁) cA cy n.toNatClampNeg k.toNatClampNeg (defaultValue ty) n.toNatClampNeg j hj
    rw [hF, hTh, hz] at this
    exact this
  have hout : Jvm.Free.Multi.outerC cA n.toNatClampNeg H.size n.toNatClampNeg = vp_cell cA (n.toNatClampNeg, .inr (.inr (.inr (.inr (fun i => if i < n.toNatClampNeg then some (H.size + 1 + i) else none))))) := by
    rw [vp_cell_q]
    exact vr_outer cA n.toNatClampNeg H.size n.toNatClampNeg
  rw [hout] at f2
  have hlt : ∀ a, a ∈ L → a < H.size := fun a ha => by
    obtain ⟨k9, hk9⟩ := va_pl_get (X := X) (f := f) ha
    exact (hP k9 _ hk9).lt
  have hnl : ∀ i : Nat, i < n.toNatClampNeg → H.size + 1 + i ∉ L := fun i _ h => by
    have := hlt _ h
    omega
  have hnm : ∀ a, a ∈ (List.range n.toNatClampNeg).map (fun i => H.size + 1 + i) → a ∉ L := fun a ha h => by
    obtain ⟨i, -, rfl⟩ := List.mem_map.mp ha
    have := hlt _ h
    omega
  have hP0 : va_P D cl (X ++ va_pl L f) F.heap := hP.kept (fun k9 x hx => hold x.1 ((hP k9 x hx).lt))
  have hP1 : va_P D cl ((X ++ va_pl L f) ++ [(H.size, .inl (cA, n.toNatClampNeg, .inr (.inr (.inr (.inr (fun i => if i < n.toNatClampNeg then some (H.size + 1 + i) else none))))))]) F.heap := hP0.app (fun k9 x hx => by
    have h0 : k9 < 1 := (List.getElem?_eq_some_iff.mp hx).1
    rw [show k9 = 0 by omega] at hx
    cases hx
    exact f2)
  have hP2 : va_P D cl (((X ++ va_pl L f) ++ [(H.size, .inl (cA, n.toNatClampNeg, .inr (.inr (.inr (.inr (fun i => if i < n.toNatClampNeg then some (H.size + 1 + i) else none))))))]) ++ ((List.range n.toNatClampNeg).map (fun i => H.size + 1 + i)).map (fun a => (a, .inl (cy, z)))) F.heap := hP1.app (fun k9 x hx => by
    obtain ⟨a, ha, rfl⟩ := List.mem_map.mp (List.mem_of_getElem? hx)
    obtain ⟨i, hi, rfl⟩ := List.mem_map.mp ha
    exact hrow i (List.mem_range.mp hi))
  have hD2 : va_D A (((X ++ va_pl L f) ++ [(H.size, .inl (cA, n.toNatClampNeg, .inr (.inr (.inr (.inr (fun i => if i < n.toNatClampNeg then some (H.size + 1 + i) else none))))))]) ++ ((List.range n.toNatClampNeg).map (fun i => H.size + 1 + i)).map (fun a => (a, .inl (cy, z)))) := by
    have hD1 := hD.push (e := .inl (cA, n.toNatClampNeg, .inr (.inr (.inr (.inr (fun i => if i < n.toNatClampNeg then some (H.size + 1 + i) else none)))))) hP rfl (hA _ hS.1)
    generalize hW1 : (X ++ va_pl L f) ++ [(H.size, .inl (cA, n.toNatClampNeg, .inr (.inr (.inr (.inr (fun i => if i < n.toNatClampNeg then some (H.size + 1 + i) else none))))))] = W1 at hD1 hP1 ⊢
    have hle : ∀ (k9 : Nat) (x : Nat × va_E), W1[k9]? = some x → x.1 ≤ H.size := fun k9 x hx => by
      rw [← hW1] at hx
      by_cases hl : k9 < (X ++ va_pl L f).length
      · rw [List.getElem?_append_left hl] at hx
        exact Nat.le_of_lt ((hP k9 x hx).lt)
      · rw [List.getElem?_append_right (by omega)] at hx
        have h0 : k9 - (X ++ va_pl L f).length < 1 := (List.getElem?_eq_some_iff.mp hx).1
        rw [show k9 - (X ++ va_pl L f).length = 0 by omega] at hx
        cases hx
        exact Nat.le_refl _
    have hr : ∀ (k9 : Nat) (x : Nat × va_E), (((List.range n.toNatClampNeg).map (fun i => H.size + 1 + i)).map (fun a => ((a, .inl (cy, z)) : Nat × va_E)))[k9]? = some x → x.1 = H.size + 1 + k9 := fun k9 x hx => by
      rw [List.getElem?_map, List.getElem?_map] at hx
      by_cases h9 : k9 < n.toNatClampNeg
      · rw [List.getElem?_range h9] at hx
        cases hx
        rfl
      · have hn0 : (List.range n.toNatClampNeg)[k9]? = none := List.getElem?_eq_none (by rw [List.length_range]; omega)
        rw [hn0] at hx
        cases hx
    refine ⟨fun i j x y hi hj hxy => ?_, fun k9 x hx => ?_⟩
    · by_cases h1 : i < W1.length <;> by_cases h2 : j < W1.length
      · rw [List.getElem?_append_left h1] at hi
        rw [List.getElem?_append_left h2] at hj
        exact hD1.1 i j x y hi hj hxy
      · rw [List.getElem?_append_left h1] at hi
        rw [List.getElem?_append_right (by omega)] at hj
        have := hle _ _ hi
        have := hr _ _ hj
        omega
      · rw [List.getElem?_append_right (by omega)] at hi
        rw [List.getElem?_append_left h2] at hj
        have := hle _ _ hj
        have := hr _ _ hi
        omega
      · rw [List.getElem?_append_right (by omega)] at hi hj
        have := hr _ _ hi
        have := hr _ _ hj
        omega
    · by_cases h1 : k9 < W1.length
      · rw [List.getElem?_append_left h1] at hx
        exact hD1.2 k9 x hx
      · rw [List.getElem?_append_right (by omega)] at hx
        have := hr _ _ hx
        exact hA _ (by have := hS.1; omega)
  have hAr : ArrOfT s cA (.array ty) := fun N9 z9 => by
    obtain ⟨-, k9, hk9, cm9, hkk9⟩ := (hO 0 0 0).1
    exact ⟨(fun q hq => by cases hq), k9, hk9, cm9, hkk9⟩
  have hK2 : va_K D cl (tys ++ [(cA, .array ty)]) s := ⟨hK.1, fun k9 x hx => by
    by_cases hl : k9 < tys.length
    · rw [List.getElem?_append_left hl] at hx
      exact hK.2 k9 x hx
    · rw [List.getElem?_append_right (by omega)] at hx
      have h0 : k9 - tys.length < 1 := (List.getElem?_eq_some_iff.mp hx).1
      rw [show k9 - tys.length = 0 by omega] at hx
      cases hx
      exact ⟨hAr, fA⟩⟩
  obtain ⟨t, a1, b1⟩ := kk H.size (fun i => H.size + 1 + i) cA F.heap (fun i j _ _ h => by have h9 : H.size + 1 + i = H.size + 1 + j := h; omega) hnl hK2 (by rw [← vr_rows hnm]; exact vr_lay hP2) (by rw [← vr_rows hnm]; exact vr_layD hD2) ⟨by rw [f1]; have := hS.1; omega, fun x h1 h2 => (hold x (Nat.lt_of_lt_of_le h1 hS.1)).trans (hS.2.1 x h1 h2), hS.2.2⟩ F rfl X'
  refine ⟨t, step t ?_, b1⟩
  have e : T.heap.size = H.size := by rw [hT]
  rw [e]
  exact a1
end VGM
/-! ===== END ===== -/

def RX0 : String := "LostAndTaxed$Changes"
def TX0 : u_T := fun k => match k with
  | 0 => ("LostAndTaxed$Changes", "sorts", "[I", true)
  | 1 => ("LostAndTaxed$Changes", "numbers", "[I", true)
  | 2 => ("LostAndTaxed$Changes", "corners", "[I", true)
  | 3 => ("LostAndTaxed$Changes", "aims", "[I", true)
  | 4 => ("LostAndTaxed$Changes", "nexts", "[I", true)
  | 5 => ("LostAndTaxed$Changes", "oldest", "I", false)
  | _ => ("LostAndTaxed$Changes", "count", "I", false)
def tyX0 : Nat → FieldType := fun k => match k with
  | 0 => .array .int
  | 1 => .array .int
  | 2 => .array .int
  | 3 => .array .int
  | 4 => .array .int
  | 5 => .int
  | _ => .int
abbrev wsX00 : List Cond := u_ws RX0 TX0 7
theorem nmX0 : ∀ a, a < 7 → ∀ b, b < 7 → a ≠ b → (TX0 a).2.1 ≠ (TX0 b).2.1 := by decide +kernel
theorem tyX0_ok : ∀ k, k < 7 → parseFieldDescriptor (TX0 k).2.2.1 = some (tyX0 k) := by decide +kernel
abbrev cX0_init : ByteArray := prog_2_method_1_code
def yX0_init : MethodName := ⟨RX0, "<init>", "()V"⟩
abbrev cX0_clear : ByteArray := prog_2_method_2_code
def yX0_clear : MethodName := ⟨RX0, "clear", "()V"⟩
abbrev cX0_note : ByteArray := prog_2_method_3_code
def yX0_note : MethodName := ⟨RX0, "note", "(IIIII)V"⟩
abbrev cX0_revertLatest : ByteArray := prog_2_method_4_code
def yX0_revertLatest : MethodName := ⟨RX0, "revertLatest", "(LLostAndTaxed$Town;)V"⟩
def RX1 : String := "LostAndTaxed$Pick"
def TX1 : u_T := fun k => match k with
  | 0 => ("LostAndTaxed$Pick", "which", "I", false)
  | _ => ("LostAndTaxed$Pick", "amount", "I", false)
def tyX1 : Nat → FieldType := fun k => match k with
  | 0 => .int
  | _ => .int
abbrev wsX10 : List Cond := u_ws RX1 TX1 2
theorem nmX1 : ∀ a, a < 2 → ∀ b, b < 2 → a ≠ b → (TX1 a).2.1 ≠ (TX1 b).2.1 := by decide +kernel
theorem tyX1_ok : ∀ k, k < 2 → parseFieldDescriptor (TX1 k).2.2.1 = some (tyX1 k) := by decide +kernel
abbrev cX1_init : ByteArray := prog_3_method_1_code
def yX1_init : MethodName := ⟨RX1, "<init>", "()V"⟩
abbrev cX1_clear : ByteArray := prog_3_method_2_code
def yX1_clear : MethodName := ⟨RX1, "clear", "()V"⟩
abbrev cX1_offerMost : ByteArray := prog_3_method_3_code
def yX1_offerMost : MethodName := ⟨RX1, "offerMost", "(II)V"⟩
abbrev cX1_offerLeast : ByteArray := prog_3_method_4_code
def yX1_offerLeast : MethodName := ⟨RX1, "offerLeast", "(II)V"⟩
abbrev cX1_answer : ByteArray := prog_3_method_5_code
def yX1_answer : MethodName := ⟨RX1, "answer", "(I)I"⟩
def RX2 : String := "LostAndTaxed$Reader"
def TX2 : u_T := fun k => match k with
  | 0 => ("LostAndTaxed$Reader", "numbers", "[I", true)
  | 1 => ("LostAndTaxed$Reader", "place", "I", false)
  | _ => ("LostAndTaxed$Reader", "onlyCorners", "Z", false)
def tyX2 : Nat → FieldType := fun k => match k with
  | 0 => .array .int
  | 1 => .int
  | _ => .boolean
abbrev wsX20 : List Cond := u_ws RX2 TX2 3
theorem nmX2 : ∀ a, a < 3 → ∀ b, b < 3 → a ≠ b → (TX2 a).2.1 ≠ (TX2 b).2.1 := by decide +kernel
theorem tyX2_ok : ∀ k, k < 3 → parseFieldDescriptor (TX2 k).2.2.1 = some (tyX2 k) := by decide +kernel
abbrev cX2_init : ByteArray := prog_4_method_1_code
def yX2_init : MethodName := ⟨RX2, "<init>", "()V"⟩
abbrev cX2_readInto : ByteArray := prog_4_method_2_code
def yX2_readInto : MethodName := ⟨RX2, "readInto", "(LLostAndTaxed$Town;LLostAndTaxed$Text;)I"⟩
abbrev cX2_readNumbers : ByteArray := prog_4_method_3_code
def yX2_readNumbers : MethodName := ⟨RX2, "readNumbers", "(LLostAndTaxed$Text;I)Z"⟩
abbrev cX2_readNumber : ByteArray := prog_4_method_4_code
def yX2_readNumber : MethodName := ⟨RX2, "readNumber", "(LLostAndTaxed$Text;)I"⟩
abbrev cX2_accept : ByteArray := prog_4_method_5_code
def yX2_accept : MethodName := ⟨RX2, "accept", "(ILLostAndTaxed$Town;)Z"⟩
abbrev cX2_acceptCorners : ByteArray := prog_4_method_6_code
def yX2_acceptCorners : MethodName := ⟨RX2, "acceptCorners", "(LLostAndTaxed$Town;)Z"⟩
abbrev cX2_acceptStreet : ByteArray := prog_4_method_7_code
def yX2_acceptStreet : MethodName := ⟨RX2, "acceptStreet", "(LLostAndTaxed$Town;)Z"⟩
abbrev cX2_acceptSign : ByteArray := prog_4_method_8_code
def yX2_acceptSign : MethodName := ⟨RX2, "acceptSign", "(LLostAndTaxed$Town;)Z"⟩
abbrev cX2_acceptWalker : ByteArray := prog_4_method_9_code
def yX2_acceptWalker : MethodName := ⟨RX2, "acceptWalker", "(LLostAndTaxed$Town;)Z"⟩
abbrev cX2_acceptRates : ByteArray := prog_4_method_10_code
def yX2_acceptRates : MethodName := ⟨RX2, "acceptRates", "(LLostAndTaxed$Town;)Z"⟩
def RX3 : String := "LostAndTaxed$Shelf"
def TX3 : u_T := fun k => match k with
  | 0 => ("LostAndTaxed$Shelf", "signs", "[LLostAndTaxed$Signs;", true)
  | 1 => ("LostAndTaxed$Shelf", "told", "[[I", true)
  | _ => ("LostAndTaxed$Shelf", "count", "I", false)
def tyX3 : Nat → FieldType := fun k => match k with
  | 0 => .array (.object "LostAndTaxed$Signs")
  | 1 => .array (.array .int)
  | _ => .int
abbrev wsX30 : List Cond := u_ws RX3 TX3 3
theorem nmX3 : ∀ a, a < 3 → ∀ b, b < 3 → a ≠ b → (TX3 a).2.1 ≠ (TX3 b).2.1 := by decide +kernel
theorem tyX3_ok : ∀ k, k < 3 → parseFieldDescriptor (TX3 k).2.2.1 = some (tyX3 k) := by decide +kernel
abbrev cX3_init : ByteArray := prog_5_method_1_code
def yX3_init : MethodName := ⟨RX3, "<init>", "()V"⟩
abbrev cX3_store : ByteArray := prog_5_method_2_code
def yX3_store : MethodName := ⟨RX3, "store", "(LLostAndTaxed$Town;)V"⟩
abbrev cX3_restoreLast : ByteArray := prog_5_method_3_code
def yX3_restoreLast : MethodName := ⟨RX3, "restoreLast", "(LLostAndTaxed$Town;)V"⟩
def RX4 : String := "LostAndTaxed$Sightings"
def TX4 : u_T := fun k => match k with
  | 0 => ("LostAndTaxed$Sightings", "walkers", "[I", true)
  | 1 => ("LostAndTaxed$Sightings", "corners", "[I", true)
  | 2 => ("LostAndTaxed$Sightings", "steps", "[I", true)
  | _ => ("LostAndTaxed$Sightings", "count", "I", false)
def tyX4 : Nat → FieldType := fun k => match k with
  | 0 => .array .int
  | 1 => .array .int
  | 2 => .array .int
  | _ => .int
abbrev wsX40 : List Cond := u_ws RX4 TX4 4
theorem nmX4 : ∀ a, a < 4 → ∀ b, b < 4 → a ≠ b → (TX4 a).2.1 ≠ (TX4 b).2.1 := by decide +kernel
theorem tyX4_ok : ∀ k, k < 4 → parseFieldDescriptor (TX4 k).2.2.1 = some (tyX4 k) := by decide +kernel
abbrev cX4_init : ByteArray := prog_6_method_1_code
def yX4_init : MethodName := ⟨RX4, "<init>", "()V"⟩
abbrev cX4_add : ByteArray := prog_6_method_2_code
def yX4_add : MethodName := ⟨RX4, "add", "(III)V"⟩
abbrev cX4_fit : ByteArray := prog_6_method_3_code
def yX4_fit : MethodName := ⟨RX4, "fit", "(ILLostAndTaxed$Trip;)Z"⟩
def RX5 : String := "LostAndTaxed$Signs"
def TX5 : u_T := fun k => match k with
  | 0 => ("LostAndTaxed$Signs", "corners", "[I", true)
  | 1 => ("LostAndTaxed$Signs", "aims", "[I", true)
  | 2 => ("LostAndTaxed$Signs", "nexts", "[I", true)
  | _ => ("LostAndTaxed$Signs", "count", "I", false)
def tyX5 : Nat → FieldType := fun k => match k with
  | 0 => .array .int
  | 1 => .array .int
  | 2 => .array .int
  | _ => .int
abbrev wsX50 : List Cond := u_ws RX5 TX5 4
theorem nmX5 : ∀ a, a < 4 → ∀ b, b < 4 → a ≠ b → (TX5 a).2.1 ≠ (TX5 b).2.1 := by decide +kernel
theorem tyX5_ok : ∀ k, k < 4 → parseFieldDescriptor (TX5 k).2.2.1 = some (tyX5 k) := by decide +kernel
abbrev cX5_init : ByteArray := prog_7_method_1_code
def yX5_init : MethodName := ⟨RX5, "<init>", "()V"⟩
abbrev cX5_insert : ByteArray := prog_7_method_2_code
def yX5_insert : MethodName := ⟨RX5, "insert", "(IIII)V"⟩
abbrev cX5_remove : ByteArray := prog_7_method_3_code
def yX5_remove : MethodName := ⟨RX5, "remove", "(I)V"⟩
abbrev cX5_move : ByteArray := prog_7_method_4_code
def yX5_move : MethodName := ⟨RX5, "move", "(II)V"⟩
abbrev cX5_copyFrom : ByteArray := prog_7_method_5_code
def yX5_copyFrom : MethodName := ⟨RX5, "copyFrom", "(LLostAndTaxed$Signs;)V"⟩
abbrev cX5_latestFor : ByteArray := prog_7_method_6_code
def yX5_latestFor : MethodName := ⟨RX5, "latestFor", "(II)I"⟩
def RX6 : String := "LostAndTaxed$Streets"
def TX6 : u_T := fun k => match k with
  | 0 => ("LostAndTaxed$Streets", "corners", "I", false)
  | 1 => ("LostAndTaxed$Streets", "count", "I", false)
  | 2 => ("LostAndTaxed$Streets", "ones", "[I", true)
  | 3 => ("LostAndTaxed$Streets", "others", "[I", true)
  | 4 => ("LostAndTaxed$Streets", "lengths", "[[I", true)
  | _ => ("LostAndTaxed$Streets", "distances", "[[I", true)
def tyX6 : Nat → FieldType := fun k => match k with
  | 0 => .int
  | 1 => .int
  | 2 => .array .int
  | 3 => .array .int
  | 4 => .array (.array .int)
  | _ => .array (.array .int)
abbrev wsX60 : List Cond := u_ws RX6 TX6 6
theorem nmX6 : ∀ a, a < 6 → ∀ b, b < 6 → a ≠ b → (TX6 a).2.1 ≠ (TX6 b).2.1 := by decide +kernel
theorem tyX6_ok : ∀ k, k < 6 → parseFieldDescriptor (TX6 k).2.2.1 = some (tyX6 k) := by decide +kernel
abbrev cX6_init : ByteArray := prog_8_method_1_code
def yX6_init : MethodName := ⟨RX6, "<init>", "()V"⟩
abbrev cX6_clear : ByteArray := prog_8_method_2_code
def yX6_clear : MethodName := ⟨RX6, "clear", "()V"⟩
abbrev cX6_add : ByteArray := prog_8_method_3_code
def yX6_add : MethodName := ⟨RX6, "add", "(III)V"⟩
abbrev cX6_measure : ByteArray := prog_8_method_4_code
def yX6_measure : MethodName := ⟨RX6, "measure", "([[II)V"⟩
abbrev cX6_shortenBy : ByteArray := prog_8_method_5_code
def yX6_shortenBy : MethodName := ⟨RX6, "shortenBy", "([[II)V"⟩
abbrev cX6_leadsOn : ByteArray := prog_8_method_6_code
def yX6_leadsOn : MethodName := ⟨RX6, "leadsOn", "(III)Z"⟩
abbrev cX6_towards : ByteArray := prog_8_method_7_code
def yX6_towards : MethodName := ⟨RX6, "towards", "(II)I"⟩
abbrev cX6_firstBut : ByteArray := prog_8_method_8_code
def yX6_firstBut : MethodName := ⟨RX6, "firstBut", "(II)I"⟩
abbrev cX6_lastBut : ByteArray := prog_8_method_9_code
def yX6_lastBut : MethodName := ⟨RX6, "lastBut", "(II)I"⟩
def RX7 : String := "LostAndTaxed$Text"
def TX7 : u_T := fun k => match k with
  | 0 => ("LostAndTaxed$Text", "letters", "[C", true)
  | _ => ("LostAndTaxed$Text", "length", "I", false)
def tyX7 : Nat → FieldType := fun k => match k with
  | 0 => .array .char
  | _ => .int
abbrev wsX70 : List Cond := u_ws RX7 TX7 2
theorem nmX7 : ∀ a, a < 2 → ∀ b, b < 2 → a ≠ b → (TX7 a).2.1 ≠ (TX7 b).2.1 := by decide +kernel
theorem tyX7_ok : ∀ k, k < 2 → parseFieldDescriptor (TX7 k).2.2.1 = some (tyX7 k) := by decide +kernel
abbrev cX7_init : ByteArray := prog_9_method_1_code
def yX7_init : MethodName := ⟨RX7, "<init>", "()V"⟩
abbrev cX7_append : ByteArray := prog_9_method_2_code
def yX7_append : MethodName := ⟨RX7, "append", "(I)V"⟩
abbrev cX7_letterAt : ByteArray := prog_9_method_3_code
def yX7_letterAt : MethodName := ⟨RX7, "letterAt", "(I)I"⟩
def RX8 : String := "LostAndTaxed$Town"
def TX8 : u_T := fun k => match k with
  | 0 => ("LostAndTaxed$Town", "streets", "LLostAndTaxed$Streets;", true)
  | 1 => ("LostAndTaxed$Town", "signs", "LLostAndTaxed$Signs;", true)
  | 2 => ("LostAndTaxed$Town", "walkers", "LLostAndTaxed$Walkers;", true)
  | 3 => ("LostAndTaxed$Town", "wrongRate", "I", false)
  | 4 => ("LostAndTaxed$Town", "backRate", "I", false)
  | _ => ("LostAndTaxed$Town", "askRate", "I", false)
def tyX8 : Nat → FieldType := fun k => match k with
  | 0 => .object "LostAndTaxed$Streets"
  | 1 => .object "LostAndTaxed$Signs"
  | 2 => .object "LostAndTaxed$Walkers"
  | 3 => .int
  | 4 => .int
  | _ => .int
abbrev wsX80 : List Cond := u_ws RX8 TX8 6
theorem nmX8 : ∀ a, a < 6 → ∀ b, b < 6 → a ≠ b → (TX8 a).2.1 ≠ (TX8 b).2.1 := by decide +kernel
theorem tyX8_ok : ∀ k, k < 6 → parseFieldDescriptor (TX8 k).2.2.1 = some (tyX8 k) := by decide +kernel
abbrev cX8_init : ByteArray := prog_10_method_1_code
def yX8_init : MethodName := ⟨RX8, "<init>", "()V"⟩
abbrev cX8_clear : ByteArray := prog_10_method_2_code
def yX8_clear : MethodName := ⟨RX8, "clear", "()V"⟩
abbrev cX8_minutesToAims : ByteArray := prog_10_method_3_code
def yX8_minutesToAims : MethodName := ⟨RX8, "minutesToAims", "([[I)I"⟩
def RX9 : String := "LostAndTaxed$Trip"
def TX9 : u_T := fun k => match k with
  | 0 => ("LostAndTaxed$Trip", "places", "[I", true)
  | 1 => ("LostAndTaxed$Trip", "strays", "[Z", true)
  | 2 => ("LostAndTaxed$Trip", "steps", "I", false)
  | 3 => ("LostAndTaxed$Trip", "minutes", "I", false)
  | 4 => ("LostAndTaxed$Trip", "wrong", "I", false)
  | 5 => ("LostAndTaxed$Trip", "cost", "I", false)
  | _ => ("LostAndTaxed$Trip", "arrived", "Z", false)
def tyX9 : Nat → FieldType := fun k => match k with
  | 0 => .array .int
  | 1 => .array .boolean
  | 2 => .int
  | 3 => .int
  | 4 => .int
  | 5 => .int
  | _ => .boolean
abbrev wsX90 : List Cond := u_ws RX9 TX9 7
theorem nmX9 : ∀ a, a < 7 → ∀ b, b < 7 → a ≠ b → (TX9 a).2.1 ≠ (TX9 b).2.1 := by decide +kernel
theorem tyX9_ok : ∀ k, k < 7 → parseFieldDescriptor (TX9 k).2.2.1 = some (tyX9 k) := by decide +kernel
abbrev cX9_init : ByteArray := prog_11_method_1_code
def yX9_init : MethodName := ⟨RX9, "<init>", "()V"⟩
abbrev cX9_make : ByteArray := prog_11_method_2_code
def yX9_make : MethodName := ⟨RX9, "make", "(LLostAndTaxed$Town;LLostAndTaxed$Signs;IIII)V"⟩
abbrev cX9_choose : ByteArray := prog_11_method_3_code
def yX9_choose : MethodName := ⟨RX9, "choose", "(LLostAndTaxed$Streets;LLostAndTaxed$Signs;IIII)I"⟩
abbrev cX9_chooseBySign : ByteArray := prog_11_method_4_code
def yX9_chooseBySign : MethodName := ⟨RX9, "chooseBySign", "(LLostAndTaxed$Streets;III)I"⟩
abbrev cX9_placeBehind : ByteArray := prog_11_method_5_code
def yX9_placeBehind : MethodName := ⟨RX9, "placeBehind", "(I)I"⟩
abbrev cX9_firstRepeat : ByteArray := prog_11_method_6_code
def yX9_firstRepeat : MethodName := ⟨RX9, "firstRepeat", "()I"⟩
abbrev cX9_tallyWrong : ByteArray := prog_11_method_7_code
def yX9_tallyWrong : MethodName := ⟨RX9, "tallyWrong", "([I)V"⟩
def RX10 : String := "LostAndTaxed$Walkers"
def TX10 : u_T := fun k => match k with
  | 0 => ("LostAndTaxed$Walkers", "kinds", "[I", true)
  | 1 => ("LostAndTaxed$Walkers", "froms", "[I", true)
  | 2 => ("LostAndTaxed$Walkers", "aims", "[I", true)
  | 3 => ("LostAndTaxed$Walkers", "told", "[I", true)
  | _ => ("LostAndTaxed$Walkers", "count", "I", false)
def tyX10 : Nat → FieldType := fun k => match k with
  | 0 => .array .int
  | 1 => .array .int
  | 2 => .array .int
  | 3 => .array .int
  | _ => .int
abbrev wsX100 : List Cond := u_ws RX10 TX10 5
theorem nmX10 : ∀ a, a < 5 → ∀ b, b < 5 → a ≠ b → (TX10 a).2.1 ≠ (TX10 b).2.1 := by decide +kernel
theorem tyX10_ok : ∀ k, k < 5 → parseFieldDescriptor (TX10 k).2.2.1 = some (tyX10 k) := by decide +kernel
abbrev cX10_init : ByteArray := prog_12_method_1_code
def yX10_init : MethodName := ⟨RX10, "<init>", "()V"⟩
abbrev cX10_add : ByteArray := prog_12_method_2_code
def yX10_add : MethodName := ⟨RX10, "add", "(III)V"⟩
abbrev cX10_anyStrangerTo : ByteArray := prog_12_method_3_code
def yX10_anyStrangerTo : MethodName := ⟨RX10, "anyStrangerTo", "(I)Z"⟩
def RX11 : String := "LostAndTaxed"
def TX11 : u_T := fun k => match k with
  | 0 => ("LostAndTaxed", "text", "LLostAndTaxed$Text;", true)
  | 1 => ("LostAndTaxed", "reader", "LLostAndTaxed$Reader;", true)
  | 2 => ("LostAndTaxed", "town", "LLostAndTaxed$Town;", false)
  | 3 => ("LostAndTaxed", "draft", "LLostAndTaxed$Town;", false)
  | 4 => ("LostAndTaxed", "trip", "LLostAndTaxed$Trip;", true)
  | 5 => ("LostAndTaxed", "trial", "LLostAndTaxed$Signs;", true)
  | 6 => ("LostAndTaxed", "changes", "LLostAndTaxed$Changes;", true)
  | 7 => ("LostAndTaxed", "shelf", "LLostAndTaxed$Shelf;", true)
  | 8 => ("LostAndTaxed", "sightings", "LLostAndTaxed$Sightings;", true)
  | 9 => ("LostAndTaxed", "pick", "LLostAndTaxed$Pick;", true)
  | 10 => ("LostAndTaxed", "detours", "[[I", true)
  | 11 => ("LostAndTaxed", "strayed", "[I", true)
  | _ => ("LostAndTaxed", "taxes", "[I", true)
def tyX11 : Nat → FieldType := fun k => match k with
  | 0 => .object "LostAndTaxed$Text"
  | 1 => .object "LostAndTaxed$Reader"
  | 2 => .object "LostAndTaxed$Town"
  | 3 => .object "LostAndTaxed$Town"
  | 4 => .object "LostAndTaxed$Trip"
  | 5 => .object "LostAndTaxed$Signs"
  | 6 => .object "LostAndTaxed$Changes"
  | 7 => .object "LostAndTaxed$Shelf"
  | 8 => .object "LostAndTaxed$Sightings"
  | 9 => .object "LostAndTaxed$Pick"
  | 10 => .array (.array .int)
  | 11 => .array .int
  | _ => .array .int
abbrev wsX110 : List Cond := u_ws RX11 TX11 13
theorem nmX11 : ∀ a, a < 13 → ∀ b, b < 13 → a ≠ b → (TX11 a).2.1 ≠ (TX11 b).2.1 := by decide +kernel
theorem tyX11_ok : ∀ k, k < 13 → parseFieldDescriptor (TX11 k).2.2.1 = some (tyX11 k) := by decide +kernel
abbrev cX11_init : ByteArray := prog_1_method_1_code
def yX11_init : MethodName := ⟨RX11, "<init>", "()V"⟩
abbrev cX11_write : ByteArray := prog_1_method_2_code
def yX11_write : MethodName := ⟨RX11, "write", "(I)I"⟩
abbrev cX11_wipe : ByteArray := prog_1_method_3_code
def yX11_wipe : MethodName := ⟨RX11, "wipe", "()I"⟩
abbrev cX11_fault : ByteArray := prog_1_method_4_code
def yX11_fault : MethodName := ⟨RX11, "fault", "()I"⟩
abbrev cX11_lay : ByteArray := prog_1_method_5_code
def yX11_lay : MethodName := ⟨RX11, "lay", "()I"⟩
abbrev cX11_far : ByteArray := prog_1_method_6_code
def yX11_far : MethodName := ⟨RX11, "far", "(II)I"⟩
abbrev cX11_street : ByteArray := prog_1_method_7_code
def yX11_street : MethodName := ⟨RX11, "street", "(II)I"⟩
abbrev cX11_sign : ByteArray := prog_1_method_8_code
def yX11_sign : MethodName := ⟨RX11, "sign", "(II)I"⟩
abbrev cX11_walker : ByteArray := prog_1_method_9_code
def yX11_walker : MethodName := ⟨RX11, "walker", "(II)I"⟩
abbrev cX11_walk : ByteArray := prog_1_method_10_code
def yX11_walk : MethodName := ⟨RX11, "walk", "(II)I"⟩
abbrev cX11_way : ByteArray := prog_1_method_11_code
def yX11_way : MethodName := ⟨RX11, "way", "(II)I"⟩
abbrev cX11_round : ByteArray := prog_1_method_12_code
def yX11_round : MethodName := ⟨RX11, "round", "(I)I"⟩
abbrev cX11_tax : ByteArray := prog_1_method_13_code
def yX11_tax : MethodName := ⟨RX11, "tax", "()I"⟩
abbrev cX11_put : ByteArray := prog_1_method_14_code
def yX11_put : MethodName := ⟨RX11, "put", "(III)I"⟩
abbrev cX11_take : ByteArray := prog_1_method_15_code
def yX11_take : MethodName := ⟨RX11, "take", "(I)I"⟩
abbrev cX11_tell : ByteArray := prog_1_method_16_code
def yX11_tell : MethodName := ⟨RX11, "tell", "(II)I"⟩
abbrev cX11_undo : ByteArray := prog_1_method_17_code
def yX11_undo : MethodName := ⟨RX11, "undo", "()I"⟩
abbrev cX11_lies : ByteArray := prog_1_method_18_code
def yX11_lies : MethodName := ⟨RX11, "lies", "()I"⟩
abbrev cX11_lure : ByteArray := prog_1_method_19_code
def yX11_lure : MethodName := ⟨RX11, "lure", "(I)I"⟩
abbrev cX11_mend : ByteArray := prog_1_method_20_code
def yX11_mend : MethodName := ⟨RX11, "mend", "(I)I"⟩
abbrev cX11_best : ByteArray := prog_1_method_21_code
def yX11_best : MethodName := ⟨RX11, "best", "(II)I"⟩
abbrev cX11_watch : ByteArray := prog_1_method_22_code
def yX11_watch : MethodName := ⟨RX11, "watch", "(I)I"⟩
abbrev cX11_missed : ByteArray := prog_1_method_23_code
def yX11_missed : MethodName := ⟨RX11, "missed", "(I)I"⟩
abbrev cX11_seen : ByteArray := prog_1_method_24_code
def yX11_seen : MethodName := ⟨RX11, "seen", "(III)I"⟩
abbrev cX11_forget : ByteArray := prog_1_method_25_code
def yX11_forget : MethodName := ⟨RX11, "forget", "()I"⟩
abbrev cX11_kinds : ByteArray := prog_1_method_26_code
def yX11_kinds : MethodName := ⟨RX11, "kinds", "(I)I"⟩
abbrev cX11_paid : ByteArray := prog_1_method_27_code
def yX11_paid : MethodName := ⟨RX11, "paid", "(II)I"⟩
abbrev cX11_mean : ByteArray := prog_1_method_28_code
def yX11_mean : MethodName := ⟨RX11, "mean", "(III)I"⟩
abbrev cX11_day : ByteArray := prog_1_method_29_code
def yX11_day : MethodName := ⟨RX11, "day", "(II)I"⟩
abbrev cX11_keep : ByteArray := prog_1_method_30_code
def yX11_keep : MethodName := ⟨RX11, "keep", "()I"⟩
abbrev cX11_back : ByteArray := prog_1_method_31_code
def yX11_back : MethodName := ⟨RX11, "back", "()I"⟩
abbrev cX11_count : ByteArray := prog_1_method_32_code
def yX11_count : MethodName := ⟨RX11, "count", "(I)I"⟩
abbrev cX11_isWithin : ByteArray := prog_1_method_33_code
def yX11_isWithin : MethodName := ⟨RX11, "isWithin", "(II)Z"⟩
abbrev cX11_isCorner : ByteArray := prog_1_method_34_code
def yX11_isCorner : MethodName := ⟨RX11, "isCorner", "(I)Z"⟩
abbrev cX11_isSign : ByteArray := prog_1_method_35_code
def yX11_isSign : MethodName := ⟨RX11, "isSign", "(I)Z"⟩
abbrev cX11_isWalker : ByteArray := prog_1_method_36_code
def yX11_isWalker : MethodName := ⟨RX11, "isWalker", "(I)Z"⟩
abbrev cX11_send : ByteArray := prog_1_method_37_code
def yX11_send : MethodName := ⟨RX11, "send", "(I)V"⟩
abbrev cX11_taxBy : ByteArray := prog_1_method_38_code
def yX11_taxBy : MethodName := ⟨RX11, "taxBy", "(LLostAndTaxed$Signs;)I"⟩
abbrev cX11_offerLures : ByteArray := prog_1_method_39_code
def yX11_offerLures : MethodName := ⟨RX11, "offerLures", "(III)V"⟩
abbrev cX11_taxOfSet : ByteArray := prog_1_method_40_code
def yX11_taxOfSet : MethodName := ⟨RX11, "taxOfSet", "(II)I"⟩
abbrev cX11_weightOfTurned : ByteArray := prog_1_method_41_code
def yX11_weightOfTurned : MethodName := ⟨RX11, "weightOfTurned", "(III)I"⟩
abbrev cX11_turnSigns : ByteArray := prog_1_method_42_code
def yX11_turnSigns : MethodName := ⟨RX11, "turnSigns", "(II)V"⟩
abbrev cX11_commonDivisor : ByteArray := prog_1_method_43_code
def yX11_commonDivisor : MethodName := ⟨RX11, "commonDivisor", "(II)I"⟩
abbrev cX11_drawOf : ByteArray := prog_1_method_44_code
def yX11_drawOf : MethodName := ⟨RX11, "drawOf", "(II)I"⟩
def RX12 : String := "LostAndTaxedModel"
def TX12 : u_T := fun k => match k with
  | 0 => ("LostAndTaxedModel", "text", "[B", true)
  | 1 => ("LostAndTaxedModel", "typed", "I", false)
  | 2 => ("LostAndTaxedModel", "corners", "[I", true)
  | 3 => ("LostAndTaxedModel", "streets", "[I", true)
  | 4 => ("LostAndTaxedModel", "streetA", "[I", true)
  | 5 => ("LostAndTaxedModel", "streetB", "[I", true)
  | 6 => ("LostAndTaxedModel", "streetLong", "[I", true)
  | 7 => ("LostAndTaxedModel", "walkers", "[I", true)
  | 8 => ("LostAndTaxedModel", "kindOf", "[I", true)
  | 9 => ("LostAndTaxedModel", "fromOf", "[I", true)
  | 10 => ("LostAndTaxedModel", "aimOf", "[I", true)
  | 11 => ("LostAndTaxedModel", "rates", "[I", true)
  | 12 => ("LostAndTaxedModel", "draft", "[I", true)
  | 13 => ("LostAndTaxedModel", "drafts", "I", false)
  | 14 => ("LostAndTaxedModel", "at", "I", false)
  | 15 => ("LostAndTaxedModel", "isSo", "Z", false)
  | 16 => ("LostAndTaxedModel", "isFirst", "Z", false)
  | 17 => ("LostAndTaxedModel", "now", "[I", true)
  | 18 => ("LostAndTaxedModel", "deeds", "I", false)
  | 19 => ("LostAndTaxedModel", "kept", "I", false)
  | 20 => ("LostAndTaxedModel", "near", "[I", true)
  | 21 => ("LostAndTaxedModel", "far", "[I", true)
  | 22 => ("LostAndTaxedModel", "been", "[I", true)
  | 23 => ("LostAndTaxedModel", "steps", "I", false)
  | 24 => ("LostAndTaxedModel", "minutes", "I", false)
  | 25 => ("LostAndTaxedModel", "wrongs", "I", false)
  | 26 => ("LostAndTaxedModel", "taxed", "I", false)
  | 27 => ("LostAndTaxedModel", "comes", "Z", false)
  | 28 => ("LostAndTaxedModel", "wrongAt", "[I", true)
  | 29 => ("LostAndTaxedModel", "own", "[I", true)
  | 30 => ("LostAndTaxedModel", "seenOf", "[I", true)
  | 31 => ("LostAndTaxedModel", "seenAt", "[I", true)
  | 32 => ("LostAndTaxedModel", "seenBehind", "[I", true)
  | _ => ("LostAndTaxedModel", "seenMany", "I", false)
def tyX12 : Nat → FieldType := fun k => match k with
  | 0 => .array .byte
  | 1 => .int
  | 2 => .array .int
  | 3 => .array .int
  | 4 => .array .int
  | 5 => .array .int
  | 6 => .array .int
  | 7 => .array .int
  | 8 => .array .int
  | 9 => .array .int
  | 10 => .array .int
  | 11 => .array .int
  | 12 => .array .int
  | 13 => .int
  | 14 => .int
  | 15 => .boolean
  | 16 => .boolean
  | 17 => .array .int
  | 18 => .int
  | 19 => .int
  | 20 => .array .int
  | 21 => .array .int
  | 22 => .array .int
  | 23 => .int
  | 24 => .int
  | 25 => .int
  | 26 => .int
  | 27 => .boolean
  | 28 => .array .int
  | 29 => .array .int
  | 30 => .array .int
  | 31 => .array .int
  | 32 => .array .int
  | _ => .int
abbrev wsX120 : List Cond := u_ws RX12 TX12 34
theorem nmX12 : ∀ a, a < 34 → ∀ b, b < 34 → a ≠ b → (TX12 a).2.1 ≠ (TX12 b).2.1 := by decide +kernel
theorem tyX12_ok : ∀ k, k < 34 → parseFieldDescriptor (TX12 k).2.2.1 = some (tyX12 k) := by decide +kernel
abbrev cX12_init : ByteArray := prog_14_method_1_code
def yX12_init : MethodName := ⟨RX12, "<init>", "()V"⟩
abbrev cX12_firstStreet : ByteArray := prog_14_method_2_code
def yX12_firstStreet : MethodName := ⟨RX12, "firstStreet", "(III)V"⟩
abbrev cX12_firstSign : ByteArray := prog_14_method_3_code
def yX12_firstSign : MethodName := ⟨RX12, "firstSign", "(III)V"⟩
abbrev cX12_firstWalker : ByteArray := prog_14_method_4_code
def yX12_firstWalker : MethodName := ⟨RX12, "firstWalker", "(III)V"⟩
abbrev cX12_firstRates : ByteArray := prog_14_method_5_code
def yX12_firstRates : MethodName := ⟨RX12, "firstRates", "(III)V"⟩
abbrev cX12_in : ByteArray := prog_14_method_7_code
def yX12_in : MethodName := ⟨RX12, "in", "(III)Z"⟩
abbrev cX12_write : ByteArray := prog_14_method_8_code
def yX12_write : MethodName := ⟨RX12, "write", "(I)I"⟩
abbrev cX12_wipe : ByteArray := prog_14_method_9_code
def yX12_wipe : MethodName := ⟨RX12, "wipe", "()I"⟩
abbrev cX12_here : ByteArray := prog_14_method_10_code
def yX12_here : MethodName := ⟨RX12, "here", "()I"⟩
abbrev cX12_number : ByteArray := prog_14_method_11_code
def yX12_number : MethodName := ⟨RX12, "number", "(III)I"⟩
abbrev cX12_corner : ByteArray := prog_14_method_12_code
def yX12_corner : MethodName := ⟨RX12, "corner", "(I)I"⟩
abbrev cX12_readStreet : ByteArray := prog_14_method_13_code
def yX12_readStreet : MethodName := ⟨RX12, "readStreet", "()V"⟩
abbrev cX12_readItem : ByteArray := prog_14_method_14_code
def yX12_readItem : MethodName := ⟨RX12, "readItem", "()V"⟩
abbrev cX12_fault : ByteArray := prog_14_method_15_code
def yX12_fault : MethodName := ⟨RX12, "fault", "()I"⟩
abbrev cX12_takeDraft : ByteArray := prog_14_method_16_code
def yX12_takeDraft : MethodName := ⟨RX12, "takeDraft", "()V"⟩
abbrev cX12_lay : ByteArray := prog_14_method_17_code
def yX12_lay : MethodName := ⟨RX12, "lay", "()I"⟩
abbrev cX12_copy : ByteArray := prog_14_method_18_code
def yX12_copy : MethodName := ⟨RX12, "copy", "(II)V"⟩
abbrev cX12_isCorner : ByteArray := prog_14_method_19_code
def yX12_isCorner : MethodName := ⟨RX12, "isCorner", "(I)Z"⟩
abbrev cX12_isWalker : ByteArray := prog_14_method_20_code
def yX12_isWalker : MethodName := ⟨RX12, "isWalker", "(I)Z"⟩
abbrev cX12_isSign : ByteArray := prog_14_method_21_code
def yX12_isSign : MethodName := ⟨RX12, "isSign", "(I)Z"⟩
abbrev cX12_measure : ByteArray := prog_14_method_22_code
def yX12_measure : MethodName := ⟨RX12, "measure", "(I)V"⟩
abbrev cX12_far : ByteArray := prog_14_method_23_code
def yX12_far : MethodName := ⟨RX12, "far", "(II)I"⟩
abbrev cX12_street : ByteArray := prog_14_method_24_code
def yX12_street : MethodName := ⟨RX12, "street", "(II)I"⟩
abbrev cX12_sign : ByteArray := prog_14_method_25_code
def yX12_sign : MethodName := ⟨RX12, "sign", "(II)I"⟩
abbrev cX12_walker : ByteArray := prog_14_method_26_code
def yX12_walker : MethodName := ⟨RX12, "walker", "(II)I"⟩
abbrev cX12_isOnWay : ByteArray := prog_14_method_27_code
def yX12_isOnWay : MethodName := ⟨RX12, "isOnWay", "(III)Z"⟩
abbrev cX12_nativeStep : ByteArray := prog_14_method_28_code
def yX12_nativeStep : MethodName := ⟨RX12, "nativeStep", "(II)I"⟩
abbrev cX12_onFrom : ByteArray := prog_14_method_29_code
def yX12_onFrom : MethodName := ⟨RX12, "onFrom", "(IIZ)I"⟩
abbrev cX12_strangerStep : ByteArray := prog_14_method_30_code
def yX12_strangerStep : MethodName := ⟨RX12, "strangerStep", "(IIII)I"⟩
abbrev cX12_nextOf : ByteArray := prog_14_method_31_code
def yX12_nextOf : MethodName := ⟨RX12, "nextOf", "(IIIII)I"⟩
abbrev cX12_go : ByteArray := prog_14_method_32_code
def yX12_go : MethodName := ⟨RX12, "go", "(IIIII)V"⟩
abbrev cX12_goAs : ByteArray := prog_14_method_33_code
def yX12_goAs : MethodName := ⟨RX12, "goAs", "(II)V"⟩
abbrev cX12_walk : ByteArray := prog_14_method_34_code
def yX12_walk : MethodName := ⟨RX12, "walk", "(II)I"⟩
abbrev cX12_way : ByteArray := prog_14_method_35_code
def yX12_way : MethodName := ⟨RX12, "way", "(II)I"⟩
abbrev cX12_cameTo : ByteArray := prog_14_method_36_code
def yX12_cameTo : MethodName := ⟨RX12, "cameTo", "(I)I"⟩
abbrev cX12_round : ByteArray := prog_14_method_37_code
def yX12_round : MethodName := ⟨RX12, "round", "(I)I"⟩
abbrev cX12_taxBy : ByteArray := prog_14_method_38_code
def yX12_taxBy : MethodName := ⟨RX12, "taxBy", "(I)I"⟩
abbrev cX12_tax : ByteArray := prog_14_method_39_code
def yX12_tax : MethodName := ⟨RX12, "tax", "()I"⟩
abbrev cX12_know : ByteArray := prog_14_method_40_code
def yX12_know : MethodName := ⟨RX12, "know", "()V"⟩
abbrev cX12_putUp : ByteArray := prog_14_method_41_code
def yX12_putUp : MethodName := ⟨RX12, "putUp", "(IIII)V"⟩
abbrev cX12_takeDown : ByteArray := prog_14_method_42_code
def yX12_takeDown : MethodName := ⟨RX12, "takeDown", "(II)V"⟩
abbrev cX12_put : ByteArray := prog_14_method_43_code
def yX12_put : MethodName := ⟨RX12, "put", "(III)I"⟩
abbrev cX12_take : ByteArray := prog_14_method_44_code
def yX12_take : MethodName := ⟨RX12, "take", "(I)I"⟩
abbrev cX12_tell : ByteArray := prog_14_method_45_code
def yX12_tell : MethodName := ⟨RX12, "tell", "(II)I"⟩
abbrev cX12_undo : ByteArray := prog_14_method_46_code
def yX12_undo : MethodName := ⟨RX12, "undo", "()I"⟩
abbrev cX12_lies : ByteArray := prog_14_method_47_code
def yX12_lies : MethodName := ⟨RX12, "lies", "()I"⟩
abbrev cX12_lure : ByteArray := prog_14_method_48_code
def yX12_lure : MethodName := ⟨RX12, "lure", "(I)I"⟩
abbrev cX12_mend : ByteArray := prog_14_method_49_code
def yX12_mend : MethodName := ⟨RX12, "mend", "(I)I"⟩
abbrev cX12_best : ByteArray := prog_14_method_50_code
def yX12_best : MethodName := ⟨RX12, "best", "(II)I"⟩
abbrev cX12_watch : ByteArray := prog_14_method_51_code
def yX12_watch : MethodName := ⟨RX12, "watch", "(I)I"⟩
abbrev cX12_moreWithout : ByteArray := prog_14_method_52_code
def yX12_moreWithout : MethodName := ⟨RX12, "moreWithout", "(I)I"⟩
abbrev cX12_missed : ByteArray := prog_14_method_53_code
def yX12_missed : MethodName := ⟨RX12, "missed", "(I)I"⟩
abbrev cX12_seen : ByteArray := prog_14_method_54_code
def yX12_seen : MethodName := ⟨RX12, "seen", "(III)I"⟩
abbrev cX12_forget : ByteArray := prog_14_method_55_code
def yX12_forget : MethodName := ⟨RX12, "forget", "()I"⟩
abbrev cX12_kinds : ByteArray := prog_14_method_56_code
def yX12_kinds : MethodName := ⟨RX12, "kinds", "(I)I"⟩
abbrev cX12_paid : ByteArray := prog_14_method_57_code
def yX12_paid : MethodName := ⟨RX12, "paid", "(II)I"⟩
abbrev cX12_turned : ByteArray := prog_14_method_58_code
def yX12_turned : MethodName := ⟨RX12, "turned", "(II)I"⟩
abbrev cX12_mean : ByteArray := prog_14_method_59_code
def yX12_mean : MethodName := ⟨RX12, "mean", "(III)I"⟩
abbrev cX12_day : ByteArray := prog_14_method_60_code
def yX12_day : MethodName := ⟨RX12, "day", "(II)I"⟩
abbrev cX12_keep : ByteArray := prog_14_method_61_code
def yX12_keep : MethodName := ⟨RX12, "keep", "()I"⟩
abbrev cX12_back : ByteArray := prog_14_method_62_code
def yX12_back : MethodName := ⟨RX12, "back", "()I"⟩
abbrev cX12_count : ByteArray := prog_14_method_63_code
def yX12_count : MethodName := ⟨RX12, "count", "(I)I"⟩
def RJx145de : String := "java/io/Serializable"
def TJx145de : u_T := fun k => match k with
  | _ => ("", "", "", false)
def tyJx145de : Nat → FieldType := fun k => match k with
  | _ => .int
abbrev wsJx145de0 : List Cond := u_ws RJx145de TJx145de 0
theorem nmJx145de : ∀ a, a < 0 → ∀ b, b < 0 → a ≠ b → (TJx145de a).2.1 ≠ (TJx145de b).2.1 := by decide +kernel
theorem tyJx145de_ok : ∀ k, k < 0 → parseFieldDescriptor (TJx145de k).2.2.1 = some (tyJx145de k) := by decide +kernel
def RJx9f9b0 : String := "java/lang/CharSequence"
def TJx9f9b0 : u_T := fun k => match k with
  | _ => ("", "", "", false)
def tyJx9f9b0 : Nat → FieldType := fun k => match k with
  | _ => .int
abbrev wsJx9f9b00 : List Cond := u_ws RJx9f9b0 TJx9f9b0 0
theorem nmJx9f9b0 : ∀ a, a < 0 → ∀ b, b < 0 → a ≠ b → (TJx9f9b0 a).2.1 ≠ (TJx9f9b0 b).2.1 := by decide +kernel
theorem tyJx9f9b0_ok : ∀ k, k < 0 → parseFieldDescriptor (TJx9f9b0 k).2.2.1 = some (tyJx9f9b0 k) := by decide +kernel
def RJxb160c : String := "java/lang/Comparable"
def TJxb160c : u_T := fun k => match k with
  | _ => ("", "", "", false)
def tyJxb160c : Nat → FieldType := fun k => match k with
  | _ => .int
abbrev wsJxb160c0 : List Cond := u_ws RJxb160c TJxb160c 0
theorem nmJxb160c : ∀ a, a < 0 → ∀ b, b < 0 → a ≠ b → (TJxb160c a).2.1 ≠ (TJxb160c b).2.1 := by decide +kernel
theorem tyJxb160c_ok : ∀ k, k < 0 → parseFieldDescriptor (TJxb160c k).2.2.1 = some (tyJxb160c k) := by decide +kernel
def RJ9 : String := "java/lang/Math"
def TJ9 : u_T := fun k => match k with
  | _ => ("", "", "", false)
def tyJ9 : Nat → FieldType := fun k => match k with
  | _ => .int
abbrev wsJ90 : List Cond := u_ws RJ9 TJ9 0
theorem nmJ9 : ∀ a, a < 0 → ∀ b, b < 0 → a ≠ b → (TJ9 a).2.1 ≠ (TJ9 b).2.1 := by decide +kernel
theorem tyJ9_ok : ∀ k, k < 0 → parseFieldDescriptor (TJ9 k).2.2.1 = some (tyJ9 k) := by decide +kernel
abbrev cJ9_max_7cf53 : ByteArray := prog_15_method_65_code
def yJ9_max_7cf53 : MethodName := ⟨RJ9, "max", "(II)I"⟩
abbrev cJ9_min_7cf53 : ByteArray := prog_15_method_69_code
def yJ9_min_7cf53 : MethodName := ⟨RJ9, "min", "(II)I"⟩
def RJ0 : String := "java/lang/String"
def TJ0 : u_T := fun k => match k with
  | _ => ("", "", "", false)
def tyJ0 : Nat → FieldType := fun k => match k with
  | _ => .int
abbrev wsJ00 : List Cond := u_ws RJ0 TJ0 0
theorem nmJ0 : ∀ a, a < 0 → ∀ b, b < 0 → a ≠ b → (TJ0 a).2.1 ≠ (TJ0 b).2.1 := by decide +kernel
theorem tyJ0_ok : ∀ k, k < 0 → parseFieldDescriptor (TJ0 k).2.2.1 = some (tyJ0 k) := by decide +kernel
abbrev cJ0_length_8abf5 : ByteArray := prog_16_method_54_code
def yJ0_length_8abf5 : MethodName := ⟨RJ0, "length", "()I"⟩
abbrev cJ0_charAt_5068e : ByteArray := prog_16_method_56_code
def yJ0_charAt_5068e : MethodName := ⟨RJ0, "charAt", "(I)C"⟩
abbrev cJ0_coder_7d493 : ByteArray := prog_16_method_152_code
def yJ0_coder_7d493 : MethodName := ⟨RJ0, "coder", "()B"⟩
abbrev cJ0_isLatin1_aae02 : ByteArray := prog_16_method_154_code
def yJ0_isLatin1_aae02 : MethodName := ⟨RJ0, "isLatin1", "()Z"⟩
abbrev cJ0_checkIndex_df160 : ByteArray := prog_16_method_155_code
def yJ0_checkIndex_df160 : MethodName := ⟨RJ0, "checkIndex", "(II)V"⟩
def RJ1 : String := "java/lang/StringLatin1"
def TJ1 : u_T := fun k => match k with
  | _ => ("", "", "", false)
def tyJ1 : Nat → FieldType := fun k => match k with
  | _ => .int
abbrev wsJ10 : List Cond := u_ws RJ1 TJ1 0
theorem nmJ1 : ∀ a, a < 0 → ∀ b, b < 0 → a ≠ b → (TJ1 a).2.1 ≠ (TJ1 b).2.1 := by decide +kernel
theorem tyJ1_ok : ∀ k, k < 0 → parseFieldDescriptor (TJ1 k).2.2.1 = some (tyJ1 k) := by decide +kernel
abbrev cJ1_charAt_3b067 : ByteArray := prog_17_method_2_code
def yJ1_charAt_3b067 : MethodName := ⟨RJ1, "charAt", "([BI)C"⟩
def RJ2 : String := "java/lang/StringUTF16"
def TJ2 : u_T := fun k => match k with
  | _ => ("", "", "", false)
def tyJ2 : Nat → FieldType := fun k => match k with
  | _ => .int
abbrev wsJ20 : List Cond := u_ws RJ2 TJ2 0
theorem nmJ2 : ∀ a, a < 0 → ∀ b, b < 0 → a ≠ b → (TJ2 a).2.1 ≠ (TJ2 b).2.1 := by decide +kernel
theorem tyJ2_ok : ∀ k, k < 0 → parseFieldDescriptor (TJ2 k).2.2.1 = some (tyJ2 k) := by decide +kernel
abbrev cJ2_getChar_3b067 : ByteArray := prog_18_method_5_code
def yJ2_getChar_3b067 : MethodName := ⟨RJ2, "getChar", "([BI)C"⟩
abbrev cJ2_length_9d52b : ByteArray := prog_18_method_6_code
def yJ2_length_9d52b : MethodName := ⟨RJ2, "length", "([B)I"⟩
abbrev cJ2_charAt_3b067 : ByteArray := prog_18_method_83_code
def yJ2_charAt_3b067 : MethodName := ⟨RJ2, "charAt", "([BI)C"⟩
abbrev cJ2_checkIndex_2214a : ByteArray := prog_18_method_91_code
def yJ2_checkIndex_2214a : MethodName := ⟨RJ2, "checkIndex", "(I[B)V"⟩
def RJ10 : String := "java/lang/System"
def TJ10 : u_T := fun k => match k with
  | _ => ("", "", "", false)
def tyJ10 : Nat → FieldType := fun k => match k with
  | _ => .int
abbrev wsJ100 : List Cond := u_ws RJ10 TJ10 0
theorem nmJ10 : ∀ a, a < 0 → ∀ b, b < 0 → a ≠ b → (TJ10 a).2.1 ≠ (TJ10 b).2.1 := by decide +kernel
theorem tyJ10_ok : ∀ k, k < 0 → parseFieldDescriptor (TJ10 k).2.2.1 = some (tyJ10 k) := by decide +kernel
def RJxfd54e : String := "java/lang/constant/Constable"
def TJxfd54e : u_T := fun k => match k with
  | _ => ("", "", "", false)
def tyJxfd54e : Nat → FieldType := fun k => match k with
  | _ => .int
abbrev wsJxfd54e0 : List Cond := u_ws RJxfd54e TJxfd54e 0
theorem nmJxfd54e : ∀ a, a < 0 → ∀ b, b < 0 → a ≠ b → (TJxfd54e a).2.1 ≠ (TJxfd54e b).2.1 := by decide +kernel
theorem tyJxfd54e_ok : ∀ k, k < 0 → parseFieldDescriptor (TJxfd54e k).2.2.1 = some (tyJxfd54e k) := by decide +kernel
def RJx3cf43 : String := "java/lang/constant/ConstantDesc"
def TJx3cf43 : u_T := fun k => match k with
  | _ => ("", "", "", false)
def tyJx3cf43 : Nat → FieldType := fun k => match k with
  | _ => .int
abbrev wsJx3cf430 : List Cond := u_ws RJx3cf43 TJx3cf43 0
theorem nmJx3cf43 : ∀ a, a < 0 → ∀ b, b < 0 → a ≠ b → (TJx3cf43 a).2.1 ≠ (TJx3cf43 b).2.1 := by decide +kernel
theorem tyJx3cf43_ok : ∀ k, k < 0 → parseFieldDescriptor (TJx3cf43 k).2.2.1 = some (tyJx3cf43 k) := by decide +kernel
def RJ7 : String := "java/util/Arrays"
def TJ7 : u_T := fun k => match k with
  | _ => ("", "", "", false)
def tyJ7 : Nat → FieldType := fun k => match k with
  | _ => .int
abbrev wsJ70 : List Cond := u_ws RJ7 TJ7 0
theorem nmJ7 : ∀ a, a < 0 → ∀ b, b < 0 → a ≠ b → (TJ7 a).2.1 ≠ (TJ7 b).2.1 := by decide +kernel
theorem tyJ7_ok : ∀ k, k < 0 → parseFieldDescriptor (TJ7 k).2.2.1 = some (tyJ7 k) := by decide +kernel
abbrev cJ7_fill_53178 : ByteArray := prog_20_method_103_code
def yJ7_fill_53178 : MethodName := ⟨RJ7, "fill", "([II)V"⟩
def RJ3 : String := "jdk/internal/util/Preconditions"
def TJ3 : u_T := fun k => match k with
  | _ => ("", "", "", false)
def tyJ3 : Nat → FieldType := fun k => match k with
  | _ => .int
abbrev wsJ30 : List Cond := u_ws RJ3 TJ3 0
theorem nmJ3 : ∀ a, a < 0 → ∀ b, b < 0 → a ≠ b → (TJ3 a).2.1 ≠ (TJ3 b).2.1 := by decide +kernel
theorem tyJ3_ok : ∀ k, k < 0 → parseFieldDescriptor (TJ3 k).2.2.1 = some (tyJ3 k) := by decide +kernel
abbrev cJ3_checkIndex_8e157 : ByteArray := prog_21_method_11_code
def yJ3_checkIndex_8e157 : MethodName := ⟨RJ3, "checkIndex", "(IILjava/util/function/BiFunction;)I"⟩
def RL : String := "LostAndTaxedLaw"
abbrev cL_law : ByteArray := code
def yL_law : MethodName := ⟨RL, "law", "([I)Z"⟩
abbrev vwCl : List vw_C := [(RX0, TX0, 7), (RX1, TX1, 2), (RX2, TX2, 3), (RX3, TX3, 3), (RX4, TX4, 4), (RX5, TX5, 4), (RX6, TX6, 6), (RX7, TX7, 2), (RX8, TX8, 6), (RX9, TX9, 7), (RX10, TX10, 5), (RX11, TX11, 13), (RX12, TX12, 34)]
end
section
theorem dX0_init_0 : decode cX0_init 0 = .ok (.aload_n 0, 1) := by decide +kernel
theorem dX0_init_1 : decode cX0_init 1 = .ok (.invokespecial 3, 3) := by decide +kernel
theorem dX0_init_4 : decode cX0_init 4 = .ok (.aload_n 0, 1) := by decide +kernel
theorem dX0_init_5 : decode cX0_init 5 = .ok (.bipush 8, 2) := by decide +kernel
theorem dX0_init_7 : decode cX0_init 7 = .ok (.newarray .int, 2) := by decide +kernel
theorem dX0_init_9 : decode cX0_init 9 = .ok (.putfield 9, 3) := by decide +kernel
theorem dX0_init_12 : decode cX0_init 12 = .ok (.aload_n 0, 1) := by decide +kernel
theorem dX0_init_13 : decode cX0_init 13 = .ok (.bipush 8, 2) := by decide +kernel
theorem dX0_init_15 : decode cX0_init 15 = .ok (.newarray .int, 2) := by decide +kernel
theorem dX0_init_17 : decode cX0_init 17 = .ok (.putfield 15, 3) := by decide +kernel
theorem dX0_init_20 : decode cX0_init 20 = .ok (.aload_n 0, 1) := by decide +kernel
theorem dX0_init_21 : decode cX0_init 21 = .ok (.bipush 8, 2) := by decide +kernel
theorem dX0_init_23 : decode cX0_init 23 = .ok (.newarray .int, 2) := by decide +kernel
theorem dX0_init_25 : decode cX0_init 25 = .ok (.putfield 18, 3) := by decide +kernel
theorem dX0_init_28 : decode cX0_init 28 = .ok (.aload_n 0, 1) := by decide +kernel
theorem dX0_init_29 : decode cX0_init 29 = .ok (.bipush 8, 2) := by decide +kernel
theorem dX0_init_31 : decode cX0_init 31 = .ok (.newarray .int, 2) := by decide +kernel
theorem dX0_init_33 : decode cX0_init 33 = .ok (.putfield 21, 3) := by decide +kernel
theorem dX0_init_36 : decode cX0_init 36 = .ok (.aload_n 0, 1) := by decide +kernel
theorem dX0_init_37 : decode cX0_init 37 = .ok (.bipush 8, 2) := by decide +kernel
theorem dX0_init_39 : decode cX0_init 39 = .ok (.newarray .int, 2) := by decide +kernel
theorem dX0_init_41 : decode cX0_init 41 = .ok (.putfield 24, 3) := by decide +kernel
theorem dX0_init_44 : decode cX0_init 44 = .ok (.return_, 1) := by decide +kernel
theorem dX0_clear_0 : decode cX0_clear 0 = .ok (.aload_n 0, 1) := by decide +kernel
theorem dX0_clear_1 : decode cX0_clear 1 = .ok (.iconst 0, 1) := by decide +kernel
theorem dX0_clear_2 : decode cX0_clear 2 = .ok (.putfield 27, 3) := by decide +kernel
theorem dX0_clear_5 : decode cX0_clear 5 = .ok (.aload_n 0, 1) := by decide +kernel
theorem dX0_clear_6 : decode cX0_clear 6 = .ok (.iconst 0, 1) := by decide +kernel
theorem dX0_clear_7 : decode cX0_clear 7 = .ok (.putfield 31, 3) := by decide +kernel
theorem dX0_clear_10 : decode cX0_clear 10 = .ok (.return_, 1) := by decide +kernel
theorem dX0_note_0 : decode cX0_note 0 = .ok (.aload_n 0, 1) := by decide +kernel
theorem dX0_note_1 : decode cX0_note 1 = .ok (.getfield 31, 3) := by decide +kernel
theorem dX0_note_4 : decode cX0_note 4 = .ok (.bipush 8, 2) := by decide +kernel
theorem dX0_note_6 : decode cX0_note 6 = .ok (.if_icmp .lt 22, 3) := by decide +kernel
theorem dX0_note_9 : decode cX0_note 9 = .ok (.aload_n 0, 1) := by decide +kernel
theorem dX0_note_10 : decode cX0_note 10 = .ok (.aload_n 0, 1) := by decide +kernel
theorem dX0_note_11 : decode cX0_note 11 = .ok (.getfield 27, 3) := by decide +kernel
theorem dX0_note_14 : decode cX0_note 14 = .ok (.iconst 1, 1) := by decide +kernel
theorem dX0_note_15 : decode cX0_note 15 = .ok (.iadd, 1) := by decide +kernel
theorem dX0_note_16 : decode cX0_note 16 = .ok (.bipush 8, 2) := by decide +kernel
theorem dX0_note_18 : decode cX0_note 18 = .ok (.irem, 1) := by decide +kernel
theorem dX0_note_19 : decode cX0_note 19 = .ok (.putfield 27, 3) := by decide +kernel
theorem dX0_note_22 : decode cX0_note 22 = .ok (.aload_n 0, 1) := by decide +kernel
theorem dX0_note_23 : decode cX0_note 23 = .ok (.bipush 7, 2) := by decide +kernel
theorem dX0_note_25 : decode cX0_note 25 = .ok (.putfield 31, 3) := by decide +kernel
theorem dX0_note_28 : decode cX0_note 28 = .ok (.aload_n 0, 1) := by decide +kernel
theorem dX0_note_29 : decode cX0_note 29 = .ok (.getfield 27, 3) := by decide +kernel
theorem dX0_note_32 : decode cX0_note 32 = .ok (.aload_n 0, 1) := by decide +kernel
theorem dX0_note_33 : decode cX0_note 33 = .ok (.getfield 31, 3) := by decide +kernel
theorem dX0_note_36 : decode cX0_note 36 = .ok (.iadd, 1) := by decide +kernel
theorem dX0_note_37 : decode cX0_note 37 = .ok (.bipush 8, 2) := by decide +kernel
theorem dX0_note_39 : decode cX0_note 39 = .ok (.irem, 1) := by decide +kernel
theorem dX0_note_40 : decode cX0_note 40 = .ok (.istore 6, 2) := by decide +kernel
theorem dX0_note_42 : decode cX0_note 42 = .ok (.aload_n 0, 1) := by decide +kernel
theorem dX0_note_43 : decode cX0_note 43 = .ok (.getfield 9, 3) := by decide +kernel
theorem dX0_note_46 : decode cX0_note 46 = .ok (.iload 6, 2) := by decide +kernel
theorem dX0_note_48 : decode cX0_note 48 = .ok (.iload_n 1, 1) := by decide +kernel
theorem dX0_note_49 : decode cX0_note 49 = .ok (.iastore, 1) := by decide +kernel
theorem dX0_note_50 : decode cX0_note 50 = .ok (.aload_n 0, 1) := by decide +kernel
theorem dX0_note_51 : decode cX0_note 51 = .ok (.getfield 15, 3) := by decide +kernel
theorem dX0_note_54 : decode cX0_note 54 = .ok (.iload 6, 2) := by decide +kernel
theorem dX0_note_56 : decode cX0_note 56 = .ok (.iload_n 2, 1) := by decide +kernel
theorem dX0_note_57 : decode cX0_note 57 = .ok (.iastore, 1) := by decide +kernel
theorem dX0_note_58 : decode cX0_note 58 = .ok (.aload_n 0, 1) := by decide +kernel
theorem dX0_note_59 : decode cX0_note 59 = .ok (.getfield 18, 3) := by decide +kernel
theorem dX0_note_62 : decode cX0_note 62 = .ok (.iload 6, 2) := by decide +kernel
theorem dX0_note_64 : decode cX0_note 64 = .ok (.iload_n 3, 1) := by decide +kernel
theorem dX0_note_65 : decode cX0_note 65 = .ok (.iastore, 1) := by decide +kernel
theorem dX0_note_66 : decode cX0_note 66 = .ok (.aload_n 0, 1) := by decide +kernel
theorem dX0_note_67 : decode cX0_note 67 = .ok (.getfield 21, 3) := by decide +kernel
theorem dX0_note_70 : decode cX0_note 70 = .ok (.iload 6, 2) := by decide +kernel
theorem dX0_note_72 : decode cX0_note 72 = .ok (.iload 4, 2) := by decide +kernel
theorem dX0_note_74 : decode cX0_note 74 = .ok (.iastore, 1) := by decide +kernel
theorem dX0_note_75 : decode cX0_note 75 = .ok (.aload_n 0, 1) := by decide +kernel
theorem dX0_note_76 : decode cX0_note 76 = .ok (.getfield 24, 3) := by decide +kernel
theorem dX0_note_79 : decode cX0_note 79 = .ok (.iload 6, 2) := by decide +kernel
theorem dX0_note_81 : decode cX0_note 81 = .ok (.iload 5, 2) := by decide +kernel
theorem dX0_note_83 : decode cX0_note 83 = .ok (.iastore, 1) := by decide +kernel
theorem dX0_note_84 : decode cX0_note 84 = .ok (.aload_n 0, 1) := by decide +kernel
theorem dX0_note_85 : decode cX0_note 85 = .ok (.dup, 1) := by decide +kernel
theorem dX0_note_86 : decode cX0_note 86 = .ok (.getfield 31, 3) := by decide +kernel
theorem dX0_note_89 : decode cX0_note 89 = .ok (.iconst 1, 1) := by decide +kernel
theorem dX0_note_90 : decode cX0_note 90 = .ok (.iadd, 1) := by decide +kernel
theorem dX0_note_91 : decode cX0_note 91 = .ok (.putfield 31, 3) := by decide +kernel
theorem dX0_note_94 : decode cX0_note 94 = .ok (.return_, 1) := by decide +kernel
theorem dX0_revertLatest_0 : decode cX0_revertLatest 0 = .ok (.aload_n 0, 1) := by decide +kernel
theorem dX0_revertLatest_1 : decode cX0_revertLatest 1 = .ok (.getfield 31, 3) := by decide +kernel
theorem dX0_revertLatest_4 : decode cX0_revertLatest 4 = .ok (.ifCond .ne 4, 3) := by decide +kernel
theorem dX0_revertLatest_7 : decode cX0_revertLatest 7 = .ok (.return_, 1) := by decide +kernel
theorem dX0_revertLatest_8 : decode cX0_revertLatest 8 = .ok (.aload_n 0, 1) := by decide +kernel
theorem dX0_revertLatest_9 : decode cX0_revertLatest 9 = .ok (.dup, 1) := by decide +kernel
theorem dX0_revertLatest_10 : decode cX0_revertLatest 10 = .ok (.getfield 31, 3) := by decide +kernel
theorem dX0_revertLatest_13 : decode cX0_revertLatest 13 = .ok (.iconst 1, 1) := by decide +kernel
theorem dX0_revertLatest_14 : decode cX0_revertLatest 14 = .ok (.isub, 1) := by decide +kernel
theorem dX0_revertLatest_15 : decode cX0_revertLatest 15 = .ok (.putfield 31, 3) := by decide +kernel
theorem dX0_revertLatest_18 : decode cX0_revertLatest 18 = .ok (.aload_n 0, 1) := by decide +kernel
theorem dX0_revertLatest_19 : decode cX0_revertLatest 19 = .ok (.getfield 27, 3) := by decide +kernel
theorem dX0_revertLatest_22 : decode cX0_revertLatest 22 = .ok (.aload_n 0, 1) := by decide +kernel
theorem dX0_revertLatest_23 : decode cX0_revertLatest 23 = .ok (.getfield 31, 3) := by decide +kernel
theorem dX0_revertLatest_26 : decode cX0_revertLatest 26 = .ok (.iadd, 1) := by decide +kernel
theorem dX0_revertLatest_27 : decode cX0_revertLatest 27 = .ok (.bipush 8, 2) := by decide +kernel
theorem dX0_revertLatest_29 : decode cX0_revertLatest 29 = .ok (.irem, 1) := by decide +kernel
theorem dX0_revertLatest_30 : decode cX0_revertLatest 30 = .ok (.istore_n 2, 1) := by decide +kernel
theorem dX0_revertLatest_31 : decode cX0_revertLatest 31 = .ok (.aload_n 0, 1) := by decide +kernel
theorem dX0_revertLatest_32 : decode cX0_revertLatest 32 = .ok (.getfield 9, 3) := by decide +kernel
theorem dX0_revertLatest_35 : decode cX0_revertLatest 35 = .ok (.iload_n 2, 1) := by decide +kernel
theorem dX0_revertLatest_36 : decode cX0_revertLatest 36 = .ok (.iaload, 1) := by decide +kernel
theorem dX0_revertLatest_37 : decode cX0_revertLatest 37 = .ok (.lookupswitch 77 #[(0, 27), (1, 43)], 27) := by decide +kernel
theorem dX0_revertLatest_64 : decode cX0_revertLatest 64 = .ok (.aload_n 1, 1) := by decide +kernel
theorem dX0_revertLatest_65 : decode cX0_revertLatest 65 = .ok (.getfield 34, 3) := by decide +kernel
theorem dX0_revertLatest_68 : decode cX0_revertLatest 68 = .ok (.aload_n 0, 1) := by decide +kernel
theorem dX0_revertLatest_69 : decode cX0_revertLatest 69 = .ok (.getfield 15, 3) := by decide +kernel
theorem dX0_revertLatest_72 : decode cX0_revertLatest 72 = .ok (.iload_n 2, 1) := by decide +kernel
theorem dX0_revertLatest_73 : decode cX0_revertLatest 73 = .ok (.iaload, 1) := by decide +kernel
theorem dX0_revertLatest_74 : decode cX0_revertLatest 74 = .ok (.invokevirtual 40, 3) := by decide +kernel
theorem dX0_revertLatest_77 : decode cX0_revertLatest 77 = .ok (.goto 57, 3) := by decide +kernel
theorem dX0_revertLatest_80 : decode cX0_revertLatest 80 = .ok (.aload_n 1, 1) := by decide +kernel
theorem dX0_revertLatest_81 : decode cX0_revertLatest 81 = .ok (.getfield 34, 3) := by decide +kernel
theorem dX0_revertLatest_84 : decode cX0_revertLatest 84 = .ok (.aload_n 0, 1) := by decide +kernel
theorem dX0_revertLatest_85 : decode cX0_revertLatest 85 = .ok (.getfield 15, 3) := by decide +kernel
theorem dX0_revertLatest_88 : decode cX0_revertLatest 88 = .ok (.iload_n 2, 1) := by decide +kernel
theorem dX0_revertLatest_89 : decode cX0_revertLatest 89 = .ok (.iaload, 1) := by decide +kernel
theorem dX0_revertLatest_90 : decode cX0_revertLatest 90 = .ok (.aload_n 0, 1) := by decide +kernel
theorem dX0_revertLatest_91 : decode cX0_revertLatest 91 = .ok (.getfield 18, 3) := by decide +kernel
theorem dX0_revertLatest_94 : decode cX0_revertLatest 94 = .ok (.iload_n 2, 1) := by decide +kernel
theorem dX0_revertLatest_95 : decode cX0_revertLatest 95 = .ok (.iaload, 1) := by decide +kernel
theorem dX0_revertLatest_96 : decode cX0_revertLatest 96 = .ok (.aload_n 0, 1) := by decide +kernel
theorem dX0_revertLatest_97 : decode cX0_revertLatest 97 = .ok (.getfield 21, 3) := by decide +kernel
theorem dX0_revertLatest_100 : decode cX0_revertLatest 100 = .ok (.iload_n 2, 1) := by decide +kernel
theorem dX0_revertLatest_101 : decode cX0_revertLatest 101 = .ok (.iaload, 1) := by decide +kernel
theorem dX0_revertLatest_102 : decode cX0_revertLatest 102 = .ok (.aload_n 0, 1) := by decide +kernel
theorem dX0_revertLatest_103 : decode cX0_revertLatest 103 = .ok (.getfield 24, 3) := by decide +kernel
theorem dX0_revertLatest_106 : decode cX0_revertLatest 106 = .ok (.iload_n 2, 1) := by decide +kernel
theorem dX0_revertLatest_107 : decode cX0_revertLatest 107 = .ok (.iaload, 1) := by decide +kernel
theorem dX0_revertLatest_108 : decode cX0_revertLatest 108 = .ok (.invokevirtual 46, 3) := by decide +kernel
theorem dX0_revertLatest_111 : decode cX0_revertLatest 111 = .ok (.goto 23, 3) := by decide +kernel
theorem dX0_revertLatest_114 : decode cX0_revertLatest 114 = .ok (.aload_n 1, 1) := by decide +kernel
theorem dX0_revertLatest_115 : decode cX0_revertLatest 115 = .ok (.getfield 50, 3) := by decide +kernel
theorem dX0_revertLatest_118 : decode cX0_revertLatest 118 = .ok (.getfield 54, 3) := by decide +kernel
theorem dX0_revertLatest_121 : decode cX0_revertLatest 121 = .ok (.aload_n 0, 1) := by decide +kernel
theorem dX0_revertLatest_122 : decode cX0_revertLatest 122 = .ok (.getfield 15, 3) := by decide +kernel
theorem dX0_revertLatest_125 : decode cX0_revertLatest 125 = .ok (.iload_n 2, 1) := by decide +kernel
theorem dX0_revertLatest_126 : decode cX0_revertLatest 126 = .ok (.iaload, 1) := by decide +kernel
theorem dX0_revertLatest_127 : decode cX0_revertLatest 127 = .ok (.aload_n 0, 1) := by decide +kernel
theorem dX0_revertLatest_128 : decode cX0_revertLatest 128 = .ok (.getfield 21, 3) := by decide +kernel
theorem dX0_revertLatest_131 : decode cX0_revertLatest 131 = .ok (.iload_n 2, 1) := by decide +kernel
theorem dX0_revertLatest_132 : decode cX0_revertLatest 132 = .ok (.iaload, 1) := by decide +kernel
theorem dX0_revertLatest_133 : decode cX0_revertLatest 133 = .ok (.iastore, 1) := by decide +kernel
theorem dX0_revertLatest_134 : decode cX0_revertLatest 134 = .ok (.return_, 1) := by decide +kernel
theorem dX1_init_0 : decode cX1_init 0 = .ok (.aload_n 0, 1) := by decide +kernel
theorem dX1_init_1 : decode cX1_init 1 = .ok (.invokespecial 3, 3) := by decide +kernel
theorem dX1_init_4 : decode cX1_init 4 = .ok (.return_, 1) := by decide +kernel
theorem dX1_clear_0 : decode cX1_clear 0 = .ok (.aload_n 0, 1) := by decide +kernel
theorem dX1_clear_1 : decode cX1_clear 1 = .ok (.bipush (-4), 2) := by decide +kernel
theorem dX1_clear_3 : decode cX1_clear 3 = .ok (.putfield 9, 3) := by decide +kernel
theorem dX1_clear_6 : decode cX1_clear 6 = .ok (.aload_n 0, 1) := by decide +kernel
theorem dX1_clear_7 : decode cX1_clear 7 = .ok (.bipush (-4), 2) := by decide +kernel
theorem dX1_clear_9 : decode cX1_clear 9 = .ok (.putfield 15, 3) := by decide +kernel
theorem dX1_clear_12 : decode cX1_clear 12 = .ok (.return_, 1) := by decide +kernel
theorem dX1_offerMost_0 : decode cX1_offerMost 0 = .ok (.aload_n 0, 1) := by decide +kernel
theorem dX1_offerMost_1 : decode cX1_offerMost 1 = .ok (.getfield 9, 3) := by decide +kernel
theorem dX1_offerMost_4 : decode cX1_offerMost 4 = .ok (.bipush (-4), 2) := by decide +kernel
theorem dX1_offerMost_6 : decode cX1_offerMost 6 = .ok (.if_icmp .eq 11, 3) := by decide +kernel
theorem dX1_offerMost_9 : decode cX1_offerMost 9 = .ok (.iload_n 2, 1) := by decide +kernel
theorem dX1_offerMost_10 : decode cX1_offerMost 10 = .ok (.aload_n 0, 1) := by decide +kernel
theorem dX1_offerMost_11 : decode cX1_offerMost 11 = .ok (.getfield 15, 3) := by decide +kernel
theorem dX1_offerMost_14 : decode cX1_offerMost 14 = .ok (.if_icmp .le 13, 3) := by decide +kernel
theorem dX1_offerMost_17 : decode cX1_offerMost 17 = .ok (.aload_n 0, 1) := by decide +kernel
theorem dX1_offerMost_18 : decode cX1_offerMost 18 = .ok (.iload_n 1, 1) := by decide +kernel
theorem dX1_offerMost_19 : decode cX1_offerMost 19 = .ok (.putfield 9, 3) := by decide +kernel
theorem dX1_offerMost_22 : decode cX1_offerMost 22 = .ok (.aload_n 0, 1) := by decide +kernel
theorem dX1_offerMost_23 : decode cX1_offerMost 23 = .ok (.iload_n 2, 1) := by decide +kernel
theorem dX1_offerMost_24 : decode cX1_offerMost 24 = .ok (.putfield 15, 3) := by decide +kernel
theorem dX1_offerMost_27 : decode cX1_offerMost 27 = .ok (.return_, 1) := by decide +kernel
theorem dX1_offerLeast_0 : decode cX1_offerLeast 0 = .ok (.aload_n 0, 1) := by decide +kernel
theorem dX1_offerLeast_1 : decode cX1_offerLeast 1 = .ok (.getfield 9, 3) := by decide +kernel
theorem dX1_offerLeast_4 : decode cX1_offerLeast 4 = .ok (.bipush (-4), 2) := by decide +kernel
theorem dX1_offerLeast_6 : decode cX1_offerLeast 6 = .ok (.if_icmp .eq 11, 3) := by decide +kernel
theorem dX1_offerLeast_9 : decode cX1_offerLeast 9 = .ok (.iload_n 2, 1) := by decide +kernel
theorem dX1_offerLeast_10 : decode cX1_offerLeast 10 = .ok (.aload_n 0, 1) := by decide +kernel
theorem dX1_offerLeast_11 : decode cX1_offerLeast 11 = .ok (.getfield 15, 3) := by decide +kernel
theorem dX1_offerLeast_14 : decode cX1_offerLeast 14 = .ok (.if_icmp .ge 13, 3) := by decide +kernel
theorem dX1_offerLeast_17 : decode cX1_offerLeast 17 = .ok (.aload_n 0, 1) := by decide +kernel
theorem dX1_offerLeast_18 : decode cX1_offerLeast 18 = .ok (.iload_n 1, 1) := by decide +kernel
theorem dX1_offerLeast_19 : decode cX1_offerLeast 19 = .ok (.putfield 9, 3) := by decide +kernel
theorem dX1_offerLeast_22 : decode cX1_offerLeast 22 = .ok (.aload_n 0, 1) := by decide +kernel
theorem dX1_offerLeast_23 : decode cX1_offerLeast 23 = .ok (.iload_n 2, 1) := by decide +kernel
theorem dX1_offerLeast_24 : decode cX1_offerLeast 24 = .ok (.putfield 15, 3) := by decide +kernel
theorem dX1_offerLeast_27 : decode cX1_offerLeast 27 = .ok (.return_, 1) := by decide +kernel
theorem dX1_answer_0 : decode cX1_answer 0 = .ok (.iload_n 1, 1) := by decide +kernel
theorem dX1_answer_1 : decode cX1_answer 1 = .ok (.ifCond .ne 10, 3) := by decide +kernel
theorem dX1_answer_4 : decode cX1_answer 4 = .ok (.aload_n 0, 1) := by decide +kernel
theorem dX1_answer_5 : decode cX1_answer 5 = .ok (.getfield 9, 3) := by decide +kernel
theorem dX1_answer_8 : decode cX1_answer 8 = .ok (.goto 7, 3) := by decide +kernel
theorem dX1_answer_11 : decode cX1_answer 11 = .ok (.aload_n 0, 1) := by decide +kernel
theorem dX1_answer_12 : decode cX1_answer 12 = .ok (.getfield 15, 3) := by decide +kernel
theorem dX1_answer_15 : decode cX1_answer 15 = .ok (.ireturn, 1) := by decide +kernel
theorem dX2_init_0 : decode cX2_init 0 = .ok (.aload_n 0, 1) := by decide +kernel
theorem dX2_init_1 : decode cX2_init 1 = .ok (.invokespecial 3, 3) := by decide +kernel
theorem dX2_init_4 : decode cX2_init 4 = .ok (.aload_n 0, 1) := by decide +kernel
theorem dX2_init_5 : decode cX2_init 5 = .ok (.iconst 3, 1) := by decide +kernel
theorem dX2_init_6 : decode cX2_init 6 = .ok (.newarray .int, 2) := by decide +kernel
theorem dX2_init_8 : decode cX2_init 8 = .ok (.putfield 9, 3) := by decide +kernel
theorem dX2_init_11 : decode cX2_init 11 = .ok (.return_, 1) := by decide +kernel
theorem dX2_readInto_0 : decode cX2_readInto 0 = .ok (.aload_n 1, 1) := by decide +kernel
theorem dX2_readInto_1 : decode cX2_readInto 1 = .ok (.invokevirtual 15, 3) := by decide +kernel
theorem dX2_readInto_4 : decode cX2_readInto 4 = .ok (.aload_n 0, 1) := by decide +kernel
theorem dX2_readInto_5 : decode cX2_readInto 5 = .ok (.iconst 0, 1) := by decide +kernel
theorem dX2_readInto_6 : decode cX2_readInto 6 = .ok (.putfield 20, 3) := by decide +kernel
theorem dX2_readInto_9 : decode cX2_readInto 9 = .ok (.aload_n 0, 1) := by decide +kernel
theorem dX2_readInto_10 : decode cX2_readInto 10 = .ok (.iconst 1, 1) := by decide +kernel
theorem dX2_readInto_11 : decode cX2_readInto 11 = .ok (.putfield 24, 3) := by decide +kernel
theorem dX2_readInto_14 : decode cX2_readInto 14 = .ok (.iconst 0, 1) := by decide +kernel
theorem dX2_readInto_15 : decode cX2_readInto 15 = .ok (.istore_n 3, 1) := by decide +kernel
theorem dX2_readInto_16 : decode cX2_readInto 16 = .ok (.iload_n 3, 1) := by decide +kernel
theorem dX2_readInto_17 : decode cX2_readInto 17 = .ok (.sipush 200, 3) := by decide +kernel
theorem dX2_readInto_20 : decode cX2_readInto 20 = .ok (.if_icmp .ge 79, 3) := by decide +kernel
theorem dX2_readInto_23 : decode cX2_readInto 23 = .ok (.aload_n 0, 1) := by decide +kernel
theorem dX2_readInto_24 : decode cX2_readInto 24 = .ok (.getfield 20, 3) := by decide +kernel
theorem dX2_readInto_27 : decode cX2_readInto 27 = .ok (.aload_n 2, 1) := by decide +kernel
theorem dX2_readInto_28 : decode cX2_readInto 28 = .ok (.getfield 28, 3) := by decide +kernel
theorem dX2_readInto_31 : decode cX2_readInto 31 = .ok (.if_icmp .ge 68, 3) := by decide +kernel
theorem dX2_readInto_34 : decode cX2_readInto 34 = .ok (.aload_n 0, 1) := by decide +kernel
theorem dX2_readInto_35 : decode cX2_readInto 35 = .ok (.getfield 20, 3) := by decide +kernel
theorem dX2_readInto_38 : decode cX2_readInto 38 = .ok (.istore 4, 2) := by decide +kernel
theorem dX2_readInto_40 : decode cX2_readInto 40 = .ok (.aload_n 2, 1) := by decide +kernel
theorem dX2_readInto_41 : decode cX2_readInto 41 = .ok (.aload_n 0, 1) := by decide +kernel
theorem dX2_readInto_42 : decode cX2_readInto 42 = .ok (.getfield 20, 3) := by decide +kernel
theorem dX2_readInto_45 : decode cX2_readInto 45 = .ok (.invokevirtual 33, 3) := by decide +kernel
theorem dX2_readInto_48 : decode cX2_readInto 48 = .ok (.istore 5, 2) := by decide +kernel
theorem dX2_readInto_50 : decode cX2_readInto 50 = .ok (.aload_n 0, 1) := by decide +kernel
theorem dX2_readInto_51 : decode cX2_readInto 51 = .ok (.dup, 1) := by decide +kernel
theorem dX2_readInto_52 : decode cX2_readInto 52 = .ok (.getfield 20, 3) := by decide +kernel
theorem dX2_readInto_55 : decode cX2_readInto 55 = .ok (.iconst 1, 1) := by decide +kernel
theorem dX2_readInto_56 : decode cX2_readInto 56 = .ok (.iadd, 1) := by decide +kernel
theorem dX2_readInto_57 : decode cX2_readInto 57 = .ok (.putfield 20, 3) := by decide +kernel
theorem dX2_readInto_60 : decode cX2_readInto 60 = .ok (.aload_n 0, 1) := by decide +kernel
theorem dX2_readInto_61 : decode cX2_readInto 61 = .ok (.aload_n 2, 1) := by decide +kernel
theorem dX2_readInto_62 : decode cX2_readInto 62 = .ok (.iload 5, 2) := by decide +kernel
theorem dX2_readInto_64 : decode cX2_readInto 64 = .ok (.bipush 99, 2) := by decide +kernel
theorem dX2_readInto_66 : decode cX2_readInto 66 = .ok (.if_icmp .ne 7, 3) := by decide +kernel
theorem dX2_readInto_69 : decode cX2_readInto 69 = .ok (.iconst 1, 1) := by decide +kernel
theorem dX2_readInto_70 : decode cX2_readInto 70 = .ok (.goto 4, 3) := by decide +kernel
theorem dX2_readInto_73 : decode cX2_readInto 73 = .ok (.iconst 3, 1) := by decide +kernel
theorem dX2_readInto_74 : decode cX2_readInto 74 = .ok (.invokevirtual 37, 3) := by decide +kernel
theorem dX2_readInto_77 : decode cX2_readInto 77 = .ok (.ifCond .eq 13, 3) := by decide +kernel
theorem dX2_readInto_80 : decode cX2_readInto 80 = .ok (.aload_n 0, 1) := by decide +kernel
theorem dX2_readInto_81 : decode cX2_readInto 81 = .ok (.iload 5, 2) := by decide +kernel
theorem dX2_readInto_83 : decode cX2_readInto 83 = .ok (.aload_n 1, 1) := by decide +kernel
theorem dX2_readInto_84 : decode cX2_readInto 84 = .ok (.invokevirtual 41, 3) := by decide +kernel
theorem dX2_readInto_87 : decode cX2_readInto 87 = .ok (.ifCond .ne 6, 3) := by decide +kernel
theorem dX2_readInto_90 : decode cX2_readInto 90 = .ok (.iload 4, 2) := by decide +kernel
theorem dX2_readInto_92 : decode cX2_readInto 92 = .ok (.ireturn, 1) := by decide +kernel
theorem dX2_readInto_93 : decode cX2_readInto 93 = .ok (.iinc 3 1, 3) := by decide +kernel
theorem dX2_readInto_96 : decode cX2_readInto 96 = .ok (.goto (-80), 3) := by decide +kernel
theorem dX2_readInto_99 : decode cX2_readInto 99 = .ok (.bipush (-4), 2) := by decide +kernel
theorem dX2_readInto_101 : decode cX2_readInto 101 = .ok (.ireturn, 1) := by decide +kernel
theorem dX2_readNumbers_0 : decode cX2_readNumbers 0 = .ok (.iconst 0, 1) := by decide +kernel
theorem dX2_readNumbers_1 : decode cX2_readNumbers 1 = .ok (.istore_n 3, 1) := by decide +kernel
theorem dX2_readNumbers_2 : decode cX2_readNumbers 2 = .ok (.iload_n 3, 1) := by decide +kernel
theorem dX2_readNumbers_3 : decode cX2_readNumbers 3 = .ok (.iload_n 2, 1) := by decide +kernel
theorem dX2_readNumbers_4 : decode cX2_readNumbers 4 = .ok (.if_icmp .ge 81, 3) := by decide +kernel
theorem dX2_readNumbers_7 : decode cX2_readNumbers 7 = .ok (.iload_n 3, 1) := by decide +kernel
theorem dX2_readNumbers_8 : decode cX2_readNumbers 8 = .ok (.aload_n 0, 1) := by decide +kernel
theorem dX2_readNumbers_9 : decode cX2_readNumbers 9 = .ok (.getfield 9, 3) := by decide +kernel
theorem dX2_readNumbers_12 : decode cX2_readNumbers 12 = .ok (.arraylength, 1) := by decide +kernel
theorem dX2_readNumbers_13 : decode cX2_readNumbers 13 = .ok (.if_icmp .ge 72, 3) := by decide +kernel
theorem dX2_readNumbers_16 : decode cX2_readNumbers 16 = .ok (.aload_n 0, 1) := by decide +kernel
theorem dX2_readNumbers_17 : decode cX2_readNumbers 17 = .ok (.getfield 9, 3) := by decide +kernel
theorem dX2_readNumbers_20 : decode cX2_readNumbers 20 = .ok (.iload_n 3, 1) := by decide +kernel
theorem dX2_readNumbers_21 : decode cX2_readNumbers 21 = .ok (.aload_n 0, 1) := by decide +kernel
theorem dX2_readNumbers_22 : decode cX2_readNumbers 22 = .ok (.aload_n 1, 1) := by decide +kernel
theorem dX2_readNumbers_23 : decode cX2_readNumbers 23 = .ok (.invokevirtual 45, 3) := by decide +kernel
theorem dX2_readNumbers_26 : decode cX2_readNumbers 26 = .ok (.iastore, 1) := by decide +kernel
theorem dX2_readNumbers_27 : decode cX2_readNumbers 27 = .ok (.iload_n 3, 1) := by decide +kernel
theorem dX2_readNumbers_28 : decode cX2_readNumbers 28 = .ok (.iconst 1, 1) := by decide +kernel
theorem dX2_readNumbers_29 : decode cX2_readNumbers 29 = .ok (.iadd, 1) := by decide +kernel
theorem dX2_readNumbers_30 : decode cX2_readNumbers 30 = .ok (.iload_n 2, 1) := by decide +kernel
theorem dX2_readNumbers_31 : decode cX2_readNumbers 31 = .ok (.if_icmp .ge 8, 3) := by decide +kernel
theorem dX2_readNumbers_34 : decode cX2_readNumbers 34 = .ok (.bipush 44, 2) := by decide +kernel
theorem dX2_readNumbers_36 : decode cX2_readNumbers 36 = .ok (.goto 5, 3) := by decide +kernel
theorem dX2_readNumbers_39 : decode cX2_readNumbers 39 = .ok (.bipush 59, 2) := by decide +kernel
theorem dX2_readNumbers_41 : decode cX2_readNumbers 41 = .ok (.istore 4, 2) := by decide +kernel
theorem dX2_readNumbers_43 : decode cX2_readNumbers 43 = .ok (.aload_n 0, 1) := by decide +kernel
theorem dX2_readNumbers_44 : decode cX2_readNumbers 44 = .ok (.getfield 9, 3) := by decide +kernel
theorem dX2_readNumbers_47 : decode cX2_readNumbers 47 = .ok (.iload_n 3, 1) := by decide +kernel
theorem dX2_readNumbers_48 : decode cX2_readNumbers 48 = .ok (.iaload, 1) := by decide +kernel
theorem dX2_readNumbers_49 : decode cX2_readNumbers 49 = .ok (.bipush (-4), 2) := by decide +kernel
theorem dX2_readNumbers_51 : decode cX2_readNumbers 51 = .ok (.if_icmp .eq 16, 3) := by decide +kernel
theorem dX2_readNumbers_54 : decode cX2_readNumbers 54 = .ok (.aload_n 1, 1) := by decide +kernel
theorem dX2_readNumbers_55 : decode cX2_readNumbers 55 = .ok (.aload_n 0, 1) := by decide +kernel
theorem dX2_readNumbers_56 : decode cX2_readNumbers 56 = .ok (.getfield 20, 3) := by decide +kernel
theorem dX2_readNumbers_59 : decode cX2_readNumbers 59 = .ok (.invokevirtual 33, 3) := by decide +kernel
theorem dX2_readNumbers_62 : decode cX2_readNumbers 62 = .ok (.iload 4, 2) := by decide +kernel
theorem dX2_readNumbers_64 : decode cX2_readNumbers 64 = .ok (.if_icmp .eq 5, 3) := by decide +kernel
theorem dX2_readNumbers_67 : decode cX2_readNumbers 67 = .ok (.iconst 0, 1) := by decide +kernel
theorem dX2_readNumbers_68 : decode cX2_readNumbers 68 = .ok (.ireturn, 1) := by decide +kernel
theorem dX2_readNumbers_69 : decode cX2_readNumbers 69 = .ok (.aload_n 0, 1) := by decide +kernel
theorem dX2_readNumbers_70 : decode cX2_readNumbers 70 = .ok (.dup, 1) := by decide +kernel
theorem dX2_readNumbers_71 : decode cX2_readNumbers 71 = .ok (.getfield 20, 3) := by decide +kernel
theorem dX2_readNumbers_74 : decode cX2_readNumbers 74 = .ok (.iconst 1, 1) := by decide +kernel
theorem dX2_readNumbers_75 : decode cX2_readNumbers 75 = .ok (.iadd, 1) := by decide +kernel
theorem dX2_readNumbers_76 : decode cX2_readNumbers 76 = .ok (.putfield 20, 3) := by decide +kernel
theorem dX2_readNumbers_79 : decode cX2_readNumbers 79 = .ok (.iinc 3 1, 3) := by decide +kernel
theorem dX2_readNumbers_82 : decode cX2_readNumbers 82 = .ok (.goto (-80), 3) := by decide +kernel
theorem dX2_readNumbers_85 : decode cX2_readNumbers 85 = .ok (.iconst 1, 1) := by decide +kernel
theorem dX2_readNumbers_86 : decode cX2_readNumbers 86 = .ok (.ireturn, 1) := by decide +kernel
theorem dX2_readNumber_0 : decode cX2_readNumber 0 = .ok (.bipush (-4), 2) := by decide +kernel
theorem dX2_readNumber_2 : decode cX2_readNumber 2 = .ok (.istore_n 2, 1) := by decide +kernel
theorem dX2_readNumber_3 : decode cX2_readNumber 3 = .ok (.iconst 0, 1) := by decide +kernel
theorem dX2_readNumber_4 : decode cX2_readNumber 4 = .ok (.istore_n 3, 1) := by decide +kernel
theorem dX2_readNumber_5 : decode cX2_readNumber 5 = .ok (.iload_n 3, 1) := by decide +kernel
theorem dX2_readNumber_6 : decode cX2_readNumber 6 = .ok (.iconst 2, 1) := by decide +kernel
theorem dX2_readNumber_7 : decode cX2_readNumber 7 = .ok (.if_icmp .ge 66, 3) := by decide +kernel
theorem dX2_readNumber_10 : decode cX2_readNumber 10 = .ok (.aload_n 1, 1) := by decide +kernel
theorem dX2_readNumber_11 : decode cX2_readNumber 11 = .ok (.aload_n 0, 1) := by decide +kernel
theorem dX2_readNumber_12 : decode cX2_readNumber 12 = .ok (.getfield 20, 3) := by decide +kernel
theorem dX2_readNumber_15 : decode cX2_readNumber 15 = .ok (.invokevirtual 33, 3) := by decide +kernel
theorem dX2_readNumber_18 : decode cX2_readNumber 18 = .ok (.istore 4, 2) := by decide +kernel
theorem dX2_readNumber_20 : decode cX2_readNumber 20 = .ok (.iload 4, 2) := by decide +kernel
theorem dX2_readNumber_22 : decode cX2_readNumber 22 = .ok (.bipush 48, 2) := by decide +kernel
theorem dX2_readNumber_24 : decode cX2_readNumber 24 = .ok (.if_icmp .lt 10, 3) := by decide +kernel
theorem dX2_readNumber_27 : decode cX2_readNumber 27 = .ok (.iload 4, 2) := by decide +kernel
theorem dX2_readNumber_29 : decode cX2_readNumber 29 = .ok (.bipush 57, 2) := by decide +kernel
theorem dX2_readNumber_31 : decode cX2_readNumber 31 = .ok (.if_icmp .le 5, 3) := by decide +kernel
theorem dX2_readNumber_34 : decode cX2_readNumber 34 = .ok (.iload_n 2, 1) := by decide +kernel
theorem dX2_readNumber_35 : decode cX2_readNumber 35 = .ok (.ireturn, 1) := by decide +kernel
theorem dX2_readNumber_36 : decode cX2_readNumber 36 = .ok (.iload_n 2, 1) := by decide +kernel
theorem dX2_readNumber_37 : decode cX2_readNumber 37 = .ok (.bipush (-4), 2) := by decide +kernel
theorem dX2_readNumber_39 : decode cX2_readNumber 39 = .ok (.if_icmp .ne 7, 3) := by decide +kernel
theorem dX2_readNumber_42 : decode cX2_readNumber 42 = .ok (.iconst 0, 1) := by decide +kernel
theorem dX2_readNumber_43 : decode cX2_readNumber 43 = .ok (.goto 7, 3) := by decide +kernel
theorem dX2_readNumber_46 : decode cX2_readNumber 46 = .ok (.bipush 10, 2) := by decide +kernel
theorem dX2_readNumber_48 : decode cX2_readNumber 48 = .ok (.iload_n 2, 1) := by decide +kernel
theorem dX2_readNumber_49 : decode cX2_readNumber 49 = .ok (.imul, 1) := by decide +kernel
theorem dX2_readNumber_50 : decode cX2_readNumber 50 = .ok (.iload 4, 2) := by decide +kernel
theorem dX2_readNumber_52 : decode cX2_readNumber 52 = .ok (.iadd, 1) := by decide +kernel
theorem dX2_readNumber_53 : decode cX2_readNumber 53 = .ok (.bipush 48, 2) := by decide +kernel
theorem dX2_readNumber_55 : decode cX2_readNumber 55 = .ok (.isub, 1) := by decide +kernel
theorem dX2_readNumber_56 : decode cX2_readNumber 56 = .ok (.istore_n 2, 1) := by decide +kernel
theorem dX2_readNumber_57 : decode cX2_readNumber 57 = .ok (.aload_n 0, 1) := by decide +kernel
theorem dX2_readNumber_58 : decode cX2_readNumber 58 = .ok (.dup, 1) := by decide +kernel
theorem dX2_readNumber_59 : decode cX2_readNumber 59 = .ok (.getfield 20, 3) := by decide +kernel
theorem dX2_readNumber_62 : decode cX2_readNumber 62 = .ok (.iconst 1, 1) := by decide +kernel
theorem dX2_readNumber_63 : decode cX2_readNumber 63 = .ok (.iadd, 1) := by decide +kernel
theorem dX2_readNumber_64 : decode cX2_readNumber 64 = .ok (.putfield 20, 3) := by decide +kernel
theorem dX2_readNumber_67 : decode cX2_readNumber 67 = .ok (.iinc 3 1, 3) := by decide +kernel
theorem dX2_readNumber_70 : decode cX2_readNumber 70 = .ok (.goto (-65), 3) := by decide +kernel
theorem dX2_readNumber_73 : decode cX2_readNumber 73 = .ok (.iload_n 2, 1) := by decide +kernel
theorem dX2_readNumber_74 : decode cX2_readNumber 74 = .ok (.ireturn, 1) := by decide +kernel
theorem dX2_accept_0 : decode cX2_accept 0 = .ok (.iload_n 1, 1) := by decide +kernel
theorem dX2_accept_1 : decode cX2_accept 1 = .ok (.bipush 99, 2) := by decide +kernel
theorem dX2_accept_3 : decode cX2_accept 3 = .ok (.if_icmp .ne 24, 3) := by decide +kernel
theorem dX2_accept_6 : decode cX2_accept 6 = .ok (.aload_n 0, 1) := by decide +kernel
theorem dX2_accept_7 : decode cX2_accept 7 = .ok (.getfield 24, 3) := by decide +kernel
theorem dX2_accept_10 : decode cX2_accept 10 = .ok (.ifCond .eq 15, 3) := by decide +kernel
theorem dX2_accept_13 : decode cX2_accept 13 = .ok (.aload_n 0, 1) := by decide +kernel
theorem dX2_accept_14 : decode cX2_accept 14 = .ok (.aload_n 2, 1) := by decide +kernel
theorem dX2_accept_15 : decode cX2_accept 15 = .ok (.invokevirtual 49, 3) := by decide +kernel
theorem dX2_accept_18 : decode cX2_accept 18 = .ok (.ifCond .eq 7, 3) := by decide +kernel
theorem dX2_accept_21 : decode cX2_accept 21 = .ok (.iconst 1, 1) := by decide +kernel
theorem dX2_accept_22 : decode cX2_accept 22 = .ok (.goto 4, 3) := by decide +kernel
theorem dX2_accept_25 : decode cX2_accept 25 = .ok (.iconst 0, 1) := by decide +kernel
theorem dX2_accept_26 : decode cX2_accept 26 = .ok (.ireturn, 1) := by decide +kernel
theorem dX2_accept_27 : decode cX2_accept 27 = .ok (.aload_n 0, 1) := by decide +kernel
theorem dX2_accept_28 : decode cX2_accept 28 = .ok (.iconst 0, 1) := by decide +kernel
theorem dX2_accept_29 : decode cX2_accept 29 = .ok (.putfield 24, 3) := by decide +kernel
theorem dX2_accept_32 : decode cX2_accept 32 = .ok (.iload_n 1, 1) := by decide +kernel
theorem dX2_accept_33 : decode cX2_accept 33 = .ok (.lookupswitch 67 #[(103, 49), (114, 61), (115, 43), (119, 55)], 43) := by decide +kernel
theorem dX2_accept_76 : decode cX2_accept 76 = .ok (.aload_n 0, 1) := by decide +kernel
theorem dX2_accept_77 : decode cX2_accept 77 = .ok (.aload_n 2, 1) := by decide +kernel
theorem dX2_accept_78 : decode cX2_accept 78 = .ok (.invokevirtual 53, 3) := by decide +kernel
theorem dX2_accept_81 : decode cX2_accept 81 = .ok (.ireturn, 1) := by decide +kernel
theorem dX2_accept_82 : decode cX2_accept 82 = .ok (.aload_n 0, 1) := by decide +kernel
theorem dX2_accept_83 : decode cX2_accept 83 = .ok (.aload_n 2, 1) := by decide +kernel
theorem dX2_accept_84 : decode cX2_accept 84 = .ok (.invokevirtual 56, 3) := by decide +kernel
theorem dX2_accept_87 : decode cX2_accept 87 = .ok (.ireturn, 1) := by decide +kernel
theorem dX2_accept_88 : decode cX2_accept 88 = .ok (.aload_n 0, 1) := by decide +kernel
theorem dX2_accept_89 : decode cX2_accept 89 = .ok (.aload_n 2, 1) := by decide +kernel
theorem dX2_accept_90 : decode cX2_accept 90 = .ok (.invokevirtual 59, 3) := by decide +kernel
theorem dX2_accept_93 : decode cX2_accept 93 = .ok (.ireturn, 1) := by decide +kernel
theorem dX2_accept_94 : decode cX2_accept 94 = .ok (.aload_n 0, 1) := by decide +kernel
theorem dX2_accept_95 : decode cX2_accept 95 = .ok (.aload_n 2, 1) := by decide +kernel
theorem dX2_accept_96 : decode cX2_accept 96 = .ok (.invokevirtual 62, 3) := by decide +kernel
theorem dX2_accept_99 : decode cX2_accept 99 = .ok (.ireturn, 1) := by decide +kernel
theorem dX2_accept_100 : decode cX2_accept 100 = .ok (.iconst 0, 1) := by decide +kernel
theorem dX2_accept_101 : decode cX2_accept 101 = .ok (.ireturn, 1) := by decide +kernel
theorem dX2_acceptCorners_0 : decode cX2_acceptCorners 0 = .ok (.aload_n 0, 1) := by decide +kernel
theorem dX2_acceptCorners_1 : decode cX2_acceptCorners 1 = .ok (.getfield 9, 3) := by decide +kernel
theorem dX2_acceptCorners_4 : decode cX2_acceptCorners 4 = .ok (.iconst 0, 1) := by decide +kernel
theorem dX2_acceptCorners_5 : decode cX2_acceptCorners 5 = .ok (.iaload, 1) := by decide +kernel
theorem dX2_acceptCorners_6 : decode cX2_acceptCorners 6 = .ok (.iconst 1, 1) := by decide +kernel
theorem dX2_acceptCorners_7 : decode cX2_acceptCorners 7 = .ok (.if_icmp .lt 14, 3) := by decide +kernel
theorem dX2_acceptCorners_10 : decode cX2_acceptCorners 10 = .ok (.aload_n 0, 1) := by decide +kernel
theorem dX2_acceptCorners_11 : decode cX2_acceptCorners 11 = .ok (.getfield 9, 3) := by decide +kernel
theorem dX2_acceptCorners_14 : decode cX2_acceptCorners 14 = .ok (.iconst 0, 1) := by decide +kernel
theorem dX2_acceptCorners_15 : decode cX2_acceptCorners 15 = .ok (.iaload, 1) := by decide +kernel
theorem dX2_acceptCorners_16 : decode cX2_acceptCorners 16 = .ok (.bipush 8, 2) := by decide +kernel
theorem dX2_acceptCorners_18 : decode cX2_acceptCorners 18 = .ok (.if_icmp .le 5, 3) := by decide +kernel
theorem dX2_acceptCorners_21 : decode cX2_acceptCorners 21 = .ok (.iconst 0, 1) := by decide +kernel
theorem dX2_acceptCorners_22 : decode cX2_acceptCorners 22 = .ok (.ireturn, 1) := by decide +kernel
theorem dX2_acceptCorners_23 : decode cX2_acceptCorners 23 = .ok (.aload_n 1, 1) := by decide +kernel
theorem dX2_acceptCorners_24 : decode cX2_acceptCorners 24 = .ok (.getfield 65, 3) := by decide +kernel
theorem dX2_acceptCorners_27 : decode cX2_acceptCorners 27 = .ok (.aload_n 0, 1) := by decide +kernel
theorem dX2_acceptCorners_28 : decode cX2_acceptCorners 28 = .ok (.getfield 9, 3) := by decide +kernel
theorem dX2_acceptCorners_31 : decode cX2_acceptCorners 31 = .ok (.iconst 0, 1) := by decide +kernel
theorem dX2_acceptCorners_32 : decode cX2_acceptCorners 32 = .ok (.iaload, 1) := by decide +kernel
theorem dX2_acceptCorners_33 : decode cX2_acceptCorners 33 = .ok (.putfield 69, 3) := by decide +kernel
theorem dX2_acceptCorners_36 : decode cX2_acceptCorners 36 = .ok (.iconst 1, 1) := by decide +kernel
theorem dX2_acceptCorners_37 : decode cX2_acceptCorners 37 = .ok (.ireturn, 1) := by decide +kernel
theorem dX2_acceptStreet_0 : decode cX2_acceptStreet 0 = .ok (.aload_n 1, 1) := by decide +kernel
theorem dX2_acceptStreet_1 : decode cX2_acceptStreet 1 = .ok (.getfield 65, 3) := by decide +kernel
theorem dX2_acceptStreet_4 : decode cX2_acceptStreet 4 = .ok (.astore_n 2, 1) := by decide +kernel
theorem dX2_acceptStreet_5 : decode cX2_acceptStreet 5 = .ok (.aload_n 0, 1) := by decide +kernel
theorem dX2_acceptStreet_6 : decode cX2_acceptStreet 6 = .ok (.getfield 9, 3) := by decide +kernel
theorem dX2_acceptStreet_9 : decode cX2_acceptStreet 9 = .ok (.iconst 0, 1) := by decide +kernel
theorem dX2_acceptStreet_10 : decode cX2_acceptStreet 10 = .ok (.iaload, 1) := by decide +kernel
theorem dX2_acceptStreet_11 : decode cX2_acceptStreet 11 = .ok (.istore_n 3, 1) := by decide +kernel
theorem dX2_acceptStreet_12 : decode cX2_acceptStreet 12 = .ok (.aload_n 0, 1) := by decide +kernel
theorem dX2_acceptStreet_13 : decode cX2_acceptStreet 13 = .ok (.getfield 9, 3) := by decide +kernel
theorem dX2_acceptStreet_16 : decode cX2_acceptStreet 16 = .ok (.iconst 1, 1) := by decide +kernel
theorem dX2_acceptStreet_17 : decode cX2_acceptStreet 17 = .ok (.iaload, 1) := by decide +kernel
theorem dX2_acceptStreet_18 : decode cX2_acceptStreet 18 = .ok (.istore 4, 2) := by decide +kernel
theorem dX2_acceptStreet_20 : decode cX2_acceptStreet 20 = .ok (.aload_n 0, 1) := by decide +kernel
theorem dX2_acceptStreet_21 : decode cX2_acceptStreet 21 = .ok (.getfield 9, 3) := by decide +kernel
theorem dX2_acceptStreet_24 : decode cX2_acceptStreet 24 = .ok (.iconst 2, 1) := by decide +kernel
theorem dX2_acceptStreet_25 : decode cX2_acceptStreet 25 = .ok (.iaload, 1) := by decide +kernel
theorem dX2_acceptStreet_26 : decode cX2_acceptStreet 26 = .ok (.istore 5, 2) := by decide +kernel
theorem dX2_acceptStreet_28 : decode cX2_acceptStreet 28 = .ok (.aload_n 2, 1) := by decide +kernel
theorem dX2_acceptStreet_29 : decode cX2_acceptStreet 29 = .ok (.getfield 74, 3) := by decide +kernel
theorem dX2_acceptStreet_32 : decode cX2_acceptStreet 32 = .ok (.bipush 12, 2) := by decide +kernel
theorem dX2_acceptStreet_34 : decode cX2_acceptStreet 34 = .ok (.if_icmp .ge 26, 3) := by decide +kernel
theorem dX2_acceptStreet_37 : decode cX2_acceptStreet 37 = .ok (.iload_n 3, 1) := by decide +kernel
theorem dX2_acceptStreet_38 : decode cX2_acceptStreet 38 = .ok (.aload_n 2, 1) := by decide +kernel
theorem dX2_acceptStreet_39 : decode cX2_acceptStreet 39 = .ok (.getfield 69, 3) := by decide +kernel
theorem dX2_acceptStreet_42 : decode cX2_acceptStreet 42 = .ok (.invokestatic 77, 3) := by decide +kernel
theorem dX2_acceptStreet_45 : decode cX2_acceptStreet 45 = .ok (.ifCond .eq 15, 3) := by decide +kernel
theorem dX2_acceptStreet_48 : decode cX2_acceptStreet 48 = .ok (.iload 4, 2) := by decide +kernel
theorem dX2_acceptStreet_50 : decode cX2_acceptStreet 50 = .ok (.aload_n 2, 1) := by decide +kernel
theorem dX2_acceptStreet_51 : decode cX2_acceptStreet 51 = .ok (.getfield 69, 3) := by decide +kernel
theorem dX2_acceptStreet_54 : decode cX2_acceptStreet 54 = .ok (.invokestatic 77, 3) := by decide +kernel
theorem dX2_acceptStreet_57 : decode cX2_acceptStreet 57 = .ok (.ifCond .ne 5, 3) := by decide +kernel
theorem dX2_acceptStreet_60 : decode cX2_acceptStreet 60 = .ok (.iconst 0, 1) := by decide +kernel
theorem dX2_acceptStreet_61 : decode cX2_acceptStreet 61 = .ok (.ireturn, 1) := by decide +kernel
theorem dX2_acceptStreet_62 : decode cX2_acceptStreet 62 = .ok (.iload_n 3, 1) := by decide +kernel
theorem dX2_acceptStreet_63 : decode cX2_acceptStreet 63 = .ok (.iload 4, 2) := by decide +kernel
theorem dX2_acceptStreet_65 : decode cX2_acceptStreet 65 = .ok (.if_icmp .eq 28, 3) := by decide +kernel
theorem dX2_acceptStreet_68 : decode cX2_acceptStreet 68 = .ok (.aload_n 2, 1) := by decide +kernel
theorem dX2_acceptStreet_69 : decode cX2_acceptStreet 69 = .ok (.getfield 81, 3) := by decide +kernel
theorem dX2_acceptStreet_72 : decode cX2_acceptStreet 72 = .ok (.iload_n 3, 1) := by decide +kernel
theorem dX2_acceptStreet_73 : decode cX2_acceptStreet 73 = .ok (.aaload, 1) := by decide +kernel
theorem dX2_acceptStreet_74 : decode cX2_acceptStreet 74 = .ok (.iload 4, 2) := by decide +kernel
theorem dX2_acceptStreet_76 : decode cX2_acceptStreet 76 = .ok (.iaload, 1) := by decide +kernel
theorem dX2_acceptStreet_77 : decode cX2_acceptStreet 77 = .ok (.ifCond .gt 16, 3) := by decide +kernel
theorem dX2_acceptStreet_80 : decode cX2_acceptStreet 80 = .ok (.iload 5, 2) := by decide +kernel
theorem dX2_acceptStreet_82 : decode cX2_acceptStreet 82 = .ok (.iconst 1, 1) := by decide +kernel
theorem dX2_acceptStreet_83 : decode cX2_acceptStreet 83 = .ok (.if_icmp .lt 10, 3) := by decide +kernel
theorem dX2_acceptStreet_86 : decode cX2_acceptStreet 86 = .ok (.iload 5, 2) := by decide +kernel
theorem dX2_acceptStreet_88 : decode cX2_acceptStreet 88 = .ok (.bipush 20, 2) := by decide +kernel
theorem dX2_acceptStreet_90 : decode cX2_acceptStreet 90 = .ok (.if_icmp .le 5, 3) := by decide +kernel
theorem dX2_acceptStreet_93 : decode cX2_acceptStreet 93 = .ok (.iconst 0, 1) := by decide +kernel
theorem dX2_acceptStreet_94 : decode cX2_acceptStreet 94 = .ok (.ireturn, 1) := by decide +kernel
theorem dX2_acceptStreet_95 : decode cX2_acceptStreet 95 = .ok (.aload_n 2, 1) := by decide +kernel
theorem dX2_acceptStreet_96 : decode cX2_acceptStreet 96 = .ok (.iload_n 3, 1) := by decide +kernel
theorem dX2_acceptStreet_97 : decode cX2_acceptStreet 97 = .ok (.iload 4, 2) := by decide +kernel
theorem dX2_acceptStreet_99 : decode cX2_acceptStreet 99 = .ok (.iload 5, 2) := by decide +kernel
theorem dX2_acceptStreet_101 : decode cX2_acceptStreet 101 = .ok (.invokevirtual 85, 3) := by decide +kernel
theorem dX2_acceptStreet_104 : decode cX2_acceptStreet 104 = .ok (.iconst 1, 1) := by decide +kernel
theorem dX2_acceptStreet_105 : decode cX2_acceptStreet 105 = .ok (.ireturn, 1) := by decide +kernel
theorem dX2_acceptSign_0 : decode cX2_acceptSign 0 = .ok (.aload_n 1, 1) := by decide +kernel
theorem dX2_acceptSign_1 : decode cX2_acceptSign 1 = .ok (.getfield 65, 3) := by decide +kernel
theorem dX2_acceptSign_4 : decode cX2_acceptSign 4 = .ok (.getfield 69, 3) := by decide +kernel
theorem dX2_acceptSign_7 : decode cX2_acceptSign 7 = .ok (.istore_n 2, 1) := by decide +kernel
theorem dX2_acceptSign_8 : decode cX2_acceptSign 8 = .ok (.aload_n 1, 1) := by decide +kernel
theorem dX2_acceptSign_9 : decode cX2_acceptSign 9 = .ok (.getfield 89, 3) := by decide +kernel
theorem dX2_acceptSign_12 : decode cX2_acceptSign 12 = .ok (.getfield 93, 3) := by decide +kernel
theorem dX2_acceptSign_15 : decode cX2_acceptSign 15 = .ok (.bipush 8, 2) := by decide +kernel
theorem dX2_acceptSign_17 : decode cX2_acceptSign 17 = .ok (.if_icmp .ge 42, 3) := by decide +kernel
theorem dX2_acceptSign_20 : decode cX2_acceptSign 20 = .ok (.aload_n 0, 1) := by decide +kernel
theorem dX2_acceptSign_21 : decode cX2_acceptSign 21 = .ok (.getfield 9, 3) := by decide +kernel
theorem dX2_acceptSign_24 : decode cX2_acceptSign 24 = .ok (.iconst 0, 1) := by decide +kernel
theorem dX2_acceptSign_25 : decode cX2_acceptSign 25 = .ok (.iaload, 1) := by decide +kernel
theorem dX2_acceptSign_26 : decode cX2_acceptSign 26 = .ok (.iload_n 2, 1) := by decide +kernel
theorem dX2_acceptSign_27 : decode cX2_acceptSign 27 = .ok (.invokestatic 77, 3) := by decide +kernel
theorem dX2_acceptSign_30 : decode cX2_acceptSign 30 = .ok (.ifCond .eq 29, 3) := by decide +kernel
theorem dX2_acceptSign_33 : decode cX2_acceptSign 33 = .ok (.aload_n 0, 1) := by decide +kernel
theorem dX2_acceptSign_34 : decode cX2_acceptSign 34 = .ok (.getfield 9, 3) := by decide +kernel
theorem dX2_acceptSign_37 : decode cX2_acceptSign 37 = .ok (.iconst 1, 1) := by decide +kernel
theorem dX2_acceptSign_38 : decode cX2_acceptSign 38 = .ok (.iaload, 1) := by decide +kernel
theorem dX2_acceptSign_39 : decode cX2_acceptSign 39 = .ok (.iload_n 2, 1) := by decide +kernel
theorem dX2_acceptSign_40 : decode cX2_acceptSign 40 = .ok (.invokestatic 77, 3) := by decide +kernel
theorem dX2_acceptSign_43 : decode cX2_acceptSign 43 = .ok (.ifCond .eq 16, 3) := by decide +kernel
theorem dX2_acceptSign_46 : decode cX2_acceptSign 46 = .ok (.aload_n 0, 1) := by decide +kernel
theorem dX2_acceptSign_47 : decode cX2_acceptSign 47 = .ok (.getfield 9, 3) := by decide +kernel
theorem dX2_acceptSign_50 : decode cX2_acceptSign 50 = .ok (.iconst 2, 1) := by decide +kernel
theorem dX2_acceptSign_51 : decode cX2_acceptSign 51 = .ok (.iaload, 1) := by decide +kernel
theorem dX2_acceptSign_52 : decode cX2_acceptSign 52 = .ok (.iload_n 2, 1) := by decide +kernel
theorem dX2_acceptSign_53 : decode cX2_acceptSign 53 = .ok (.invokestatic 77, 3) := by decide +kernel
theorem dX2_acceptSign_56 : decode cX2_acceptSign 56 = .ok (.ifCond .ne 5, 3) := by decide +kernel
theorem dX2_acceptSign_59 : decode cX2_acceptSign 59 = .ok (.iconst 0, 1) := by decide +kernel
theorem dX2_acceptSign_60 : decode cX2_acceptSign 60 = .ok (.ireturn, 1) := by decide +kernel
theorem dX2_acceptSign_61 : decode cX2_acceptSign 61 = .ok (.aload_n 1, 1) := by decide +kernel
theorem dX2_acceptSign_62 : decode cX2_acceptSign 62 = .ok (.getfield 89, 3) := by decide +kernel
theorem dX2_acceptSign_65 : decode cX2_acceptSign 65 = .ok (.aload_n 1, 1) := by decide +kernel
theorem dX2_acceptSign_66 : decode cX2_acceptSign 66 = .ok (.getfield 89, 3) := by decide +kernel
theorem dX2_acceptSign_69 : decode cX2_acceptSign 69 = .ok (.getfield 93, 3) := by decide +kernel
theorem dX2_acceptSign_72 : decode cX2_acceptSign 72 = .ok (.aload_n 0, 1) := by decide +kernel
theorem dX2_acceptSign_73 : decode cX2_acceptSign 73 = .ok (.getfield 9, 3) := by decide +kernel
theorem dX2_acceptSign_76 : decode cX2_acceptSign 76 = .ok (.iconst 0, 1) := by decide +kernel
theorem dX2_acceptSign_77 : decode cX2_acceptSign 77 = .ok (.iaload, 1) := by decide +kernel
theorem dX2_acceptSign_78 : decode cX2_acceptSign 78 = .ok (.aload_n 0, 1) := by decide +kernel
theorem dX2_acceptSign_79 : decode cX2_acceptSign 79 = .ok (.getfield 9, 3) := by decide +kernel
theorem dX2_acceptSign_82 : decode cX2_acceptSign 82 = .ok (.iconst 1, 1) := by decide +kernel
theorem dX2_acceptSign_83 : decode cX2_acceptSign 83 = .ok (.iaload, 1) := by decide +kernel
theorem dX2_acceptSign_84 : decode cX2_acceptSign 84 = .ok (.aload_n 0, 1) := by decide +kernel
theorem dX2_acceptSign_85 : decode cX2_acceptSign 85 = .ok (.getfield 9, 3) := by decide +kernel
theorem dX2_acceptSign_88 : decode cX2_acceptSign 88 = .ok (.iconst 2, 1) := by decide +kernel
theorem dX2_acceptSign_89 : decode cX2_acceptSign 89 = .ok (.iaload, 1) := by decide +kernel
theorem dX2_acceptSign_90 : decode cX2_acceptSign 90 = .ok (.invokevirtual 96, 3) := by decide +kernel
theorem dX2_acceptSign_93 : decode cX2_acceptSign 93 = .ok (.iconst 1, 1) := by decide +kernel
theorem dX2_acceptSign_94 : decode cX2_acceptSign 94 = .ok (.ireturn, 1) := by decide +kernel
theorem dX2_acceptWalker_0 : decode cX2_acceptWalker 0 = .ok (.aload_n 1, 1) := by decide +kernel
theorem dX2_acceptWalker_1 : decode cX2_acceptWalker 1 = .ok (.getfield 65, 3) := by decide +kernel
theorem dX2_acceptWalker_4 : decode cX2_acceptWalker 4 = .ok (.getfield 69, 3) := by decide +kernel
theorem dX2_acceptWalker_7 : decode cX2_acceptWalker 7 = .ok (.istore_n 2, 1) := by decide +kernel
theorem dX2_acceptWalker_8 : decode cX2_acceptWalker 8 = .ok (.aload_n 1, 1) := by decide +kernel
theorem dX2_acceptWalker_9 : decode cX2_acceptWalker 9 = .ok (.getfield 100, 3) := by decide +kernel
theorem dX2_acceptWalker_12 : decode cX2_acceptWalker 12 = .ok (.getfield 104, 3) := by decide +kernel
theorem dX2_acceptWalker_15 : decode cX2_acceptWalker 15 = .ok (.iconst 4, 1) := by decide +kernel
theorem dX2_acceptWalker_16 : decode cX2_acceptWalker 16 = .ok (.if_icmp .ge 42, 3) := by decide +kernel
theorem dX2_acceptWalker_19 : decode cX2_acceptWalker 19 = .ok (.aload_n 0, 1) := by decide +kernel
theorem dX2_acceptWalker_20 : decode cX2_acceptWalker 20 = .ok (.getfield 9, 3) := by decide +kernel
theorem dX2_acceptWalker_23 : decode cX2_acceptWalker 23 = .ok (.iconst 0, 1) := by decide +kernel
theorem dX2_acceptWalker_24 : decode cX2_acceptWalker 24 = .ok (.iaload, 1) := by decide +kernel
theorem dX2_acceptWalker_25 : decode cX2_acceptWalker 25 = .ok (.iconst 4, 1) := by decide +kernel
theorem dX2_acceptWalker_26 : decode cX2_acceptWalker 26 = .ok (.invokestatic 77, 3) := by decide +kernel
theorem dX2_acceptWalker_29 : decode cX2_acceptWalker 29 = .ok (.ifCond .eq 29, 3) := by decide +kernel
theorem dX2_acceptWalker_32 : decode cX2_acceptWalker 32 = .ok (.aload_n 0, 1) := by decide +kernel
theorem dX2_acceptWalker_33 : decode cX2_acceptWalker 33 = .ok (.getfield 9, 3) := by decide +kernel
theorem dX2_acceptWalker_36 : decode cX2_acceptWalker 36 = .ok (.iconst 1, 1) := by decide +kernel
theorem dX2_acceptWalker_37 : decode cX2_acceptWalker 37 = .ok (.iaload, 1) := by decide +kernel
theorem dX2_acceptWalker_38 : decode cX2_acceptWalker 38 = .ok (.iload_n 2, 1) := by decide +kernel
theorem dX2_acceptWalker_39 : decode cX2_acceptWalker 39 = .ok (.invokestatic 77, 3) := by decide +kernel
theorem dX2_acceptWalker_42 : decode cX2_acceptWalker 42 = .ok (.ifCond .eq 16, 3) := by decide +kernel
theorem dX2_acceptWalker_45 : decode cX2_acceptWalker 45 = .ok (.aload_n 0, 1) := by decide +kernel
theorem dX2_acceptWalker_46 : decode cX2_acceptWalker 46 = .ok (.getfield 9, 3) := by decide +kernel
theorem dX2_acceptWalker_49 : decode cX2_acceptWalker 49 = .ok (.iconst 2, 1) := by decide +kernel
theorem dX2_acceptWalker_50 : decode cX2_acceptWalker 50 = .ok (.iaload, 1) := by decide +kernel
theorem dX2_acceptWalker_51 : decode cX2_acceptWalker 51 = .ok (.iload_n 2, 1) := by decide +kernel
theorem dX2_acceptWalker_52 : decode cX2_acceptWalker 52 = .ok (.invokestatic 77, 3) := by decide +kernel
theorem dX2_acceptWalker_55 : decode cX2_acceptWalker 55 = .ok (.ifCond .ne 5, 3) := by decide +kernel
theorem dX2_acceptWalker_58 : decode cX2_acceptWalker 58 = .ok (.iconst 0, 1) := by decide +kernel
theorem dX2_acceptWalker_59 : decode cX2_acceptWalker 59 = .ok (.ireturn, 1) := by decide +kernel
theorem dX2_acceptWalker_60 : decode cX2_acceptWalker 60 = .ok (.aload_n 1, 1) := by decide +kernel
theorem dX2_acceptWalker_61 : decode cX2_acceptWalker 61 = .ok (.getfield 100, 3) := by decide +kernel
theorem dX2_acceptWalker_64 : decode cX2_acceptWalker 64 = .ok (.aload_n 0, 1) := by decide +kernel
theorem dX2_acceptWalker_65 : decode cX2_acceptWalker 65 = .ok (.getfield 9, 3) := by decide +kernel
theorem dX2_acceptWalker_68 : decode cX2_acceptWalker 68 = .ok (.iconst 0, 1) := by decide +kernel
theorem dX2_acceptWalker_69 : decode cX2_acceptWalker 69 = .ok (.iaload, 1) := by decide +kernel
theorem dX2_acceptWalker_70 : decode cX2_acceptWalker 70 = .ok (.aload_n 0, 1) := by decide +kernel
theorem dX2_acceptWalker_71 : decode cX2_acceptWalker 71 = .ok (.getfield 9, 3) := by decide +kernel
theorem dX2_acceptWalker_74 : decode cX2_acceptWalker 74 = .ok (.iconst 1, 1) := by decide +kernel
theorem dX2_acceptWalker_75 : decode cX2_acceptWalker 75 = .ok (.iaload, 1) := by decide +kernel
theorem dX2_acceptWalker_76 : decode cX2_acceptWalker 76 = .ok (.aload_n 0, 1) := by decide +kernel
theorem dX2_acceptWalker_77 : decode cX2_acceptWalker 77 = .ok (.getfield 9, 3) := by decide +kernel
theorem dX2_acceptWalker_80 : decode cX2_acceptWalker 80 = .ok (.iconst 2, 1) := by decide +kernel
theorem dX2_acceptWalker_81 : decode cX2_acceptWalker 81 = .ok (.iaload, 1) := by decide +kernel
theorem dX2_acceptWalker_82 : decode cX2_acceptWalker 82 = .ok (.invokevirtual 107, 3) := by decide +kernel
theorem dX2_acceptWalker_85 : decode cX2_acceptWalker 85 = .ok (.iconst 1, 1) := by decide +kernel
theorem dX2_acceptWalker_86 : decode cX2_acceptWalker 86 = .ok (.ireturn, 1) := by decide +kernel
theorem dX2_acceptRates_0 : decode cX2_acceptRates 0 = .ok (.aload_n 0, 1) := by decide +kernel
theorem dX2_acceptRates_1 : decode cX2_acceptRates 1 = .ok (.getfield 9, 3) := by decide +kernel
theorem dX2_acceptRates_4 : decode cX2_acceptRates 4 = .ok (.iconst 0, 1) := by decide +kernel
theorem dX2_acceptRates_5 : decode cX2_acceptRates 5 = .ok (.iaload, 1) := by decide +kernel
theorem dX2_acceptRates_6 : decode cX2_acceptRates 6 = .ok (.bipush 10, 2) := by decide +kernel
theorem dX2_acceptRates_8 : decode cX2_acceptRates 8 = .ok (.invokestatic 77, 3) := by decide +kernel
theorem dX2_acceptRates_11 : decode cX2_acceptRates 11 = .ok (.ifCond .eq 31, 3) := by decide +kernel
theorem dX2_acceptRates_14 : decode cX2_acceptRates 14 = .ok (.aload_n 0, 1) := by decide +kernel
theorem dX2_acceptRates_15 : decode cX2_acceptRates 15 = .ok (.getfield 9, 3) := by decide +kernel
theorem dX2_acceptRates_18 : decode cX2_acceptRates 18 = .ok (.iconst 1, 1) := by decide +kernel
theorem dX2_acceptRates_19 : decode cX2_acceptRates 19 = .ok (.iaload, 1) := by decide +kernel
theorem dX2_acceptRates_20 : decode cX2_acceptRates 20 = .ok (.bipush 10, 2) := by decide +kernel
theorem dX2_acceptRates_22 : decode cX2_acceptRates 22 = .ok (.invokestatic 77, 3) := by decide +kernel
theorem dX2_acceptRates_25 : decode cX2_acceptRates 25 = .ok (.ifCond .eq 17, 3) := by decide +kernel
theorem dX2_acceptRates_28 : decode cX2_acceptRates 28 = .ok (.aload_n 0, 1) := by decide +kernel
theorem dX2_acceptRates_29 : decode cX2_acceptRates 29 = .ok (.getfield 9, 3) := by decide +kernel
theorem dX2_acceptRates_32 : decode cX2_acceptRates 32 = .ok (.iconst 2, 1) := by decide +kernel
theorem dX2_acceptRates_33 : decode cX2_acceptRates 33 = .ok (.iaload, 1) := by decide +kernel
theorem dX2_acceptRates_34 : decode cX2_acceptRates 34 = .ok (.bipush 10, 2) := by decide +kernel
theorem dX2_acceptRates_36 : decode cX2_acceptRates 36 = .ok (.invokestatic 77, 3) := by decide +kernel
theorem dX2_acceptRates_39 : decode cX2_acceptRates 39 = .ok (.ifCond .ne 5, 3) := by decide +kernel
theorem dX2_acceptRates_42 : decode cX2_acceptRates 42 = .ok (.iconst 0, 1) := by decide +kernel
theorem dX2_acceptRates_43 : decode cX2_acceptRates 43 = .ok (.ireturn, 1) := by decide +kernel
theorem dX2_acceptRates_44 : decode cX2_acceptRates 44 = .ok (.aload_n 1, 1) := by decide +kernel
theorem dX2_acceptRates_45 : decode cX2_acceptRates 45 = .ok (.aload_n 0, 1) := by decide +kernel
theorem dX2_acceptRates_46 : decode cX2_acceptRates 46 = .ok (.getfield 9, 3) := by decide +kernel
theorem dX2_acceptRates_49 : decode cX2_acceptRates 49 = .ok (.iconst 0, 1) := by decide +kernel
theorem dX2_acceptRates_50 : decode cX2_acceptRates 50 = .ok (.iaload, 1) := by decide +kernel
theorem dX2_acceptRates_51 : decode cX2_acceptRates 51 = .ok (.putfield 108, 3) := by decide +kernel
theorem dX2_acceptRates_54 : decode cX2_acceptRates 54 = .ok (.aload_n 1, 1) := by decide +kernel
theorem dX2_acceptRates_55 : decode cX2_acceptRates 55 = .ok (.aload_n 0, 1) := by decide +kernel
theorem dX2_acceptRates_56 : decode cX2_acceptRates 56 = .ok (.getfield 9, 3) := by decide +kernel
theorem dX2_acceptRates_59 : decode cX2_acceptRates 59 = .ok (.iconst 1, 1) := by decide +kernel
theorem dX2_acceptRates_60 : decode cX2_acceptRates 60 = .ok (.iaload, 1) := by decide +kernel
theorem dX2_acceptRates_61 : decode cX2_acceptRates 61 = .ok (.putfield 111, 3) := by decide +kernel
theorem dX2_acceptRates_64 : decode cX2_acceptRates 64 = .ok (.aload_n 1, 1) := by decide +kernel
theorem dX2_acceptRates_65 : decode cX2_acceptRates 65 = .ok (.aload_n 0, 1) := by decide +kernel
theorem dX2_acceptRates_66 : decode cX2_acceptRates 66 = .ok (.getfield 9, 3) := by decide +kernel
theorem dX2_acceptRates_69 : decode cX2_acceptRates 69 = .ok (.iconst 2, 1) := by decide +kernel
theorem dX2_acceptRates_70 : decode cX2_acceptRates 70 = .ok (.iaload, 1) := by decide +kernel
theorem dX2_acceptRates_71 : decode cX2_acceptRates 71 = .ok (.putfield 114, 3) := by decide +kernel
theorem dX2_acceptRates_74 : decode cX2_acceptRates 74 = .ok (.iconst 1, 1) := by decide +kernel
theorem dX2_acceptRates_75 : decode cX2_acceptRates 75 = .ok (.ireturn, 1) := by decide +kernel
theorem dX3_init_0 : decode cX3_init 0 = .ok (.aload_n 0, 1) := by decide +kernel
theorem dX3_init_1 : decode cX3_init 1 = .ok (.invokespecial 3, 3) := by decide +kernel
theorem dX3_init_4 : decode cX3_init 4 = .ok (.aload_n 0, 1) := by decide +kernel
theorem dX3_init_5 : decode cX3_init 5 = .ok (.iconst 2, 1) := by decide +kernel
theorem dX3_init_6 : decode cX3_init 6 = .ok (.anewarray 9, 3) := by decide +kernel
theorem dX3_init_9 : decode cX3_init 9 = .ok (.putfield 11, 3) := by decide +kernel
theorem dX3_init_12 : decode cX3_init 12 = .ok (.aload_n 0, 1) := by decide +kernel
theorem dX3_init_13 : decode cX3_init 13 = .ok (.iconst 2, 1) := by decide +kernel
theorem dX3_init_14 : decode cX3_init 14 = .ok (.iconst 4, 1) := by decide +kernel
theorem dX3_init_15 : decode cX3_init 15 = .ok (.multianewarray 17 2, 4) := by decide +kernel
theorem dX3_init_19 : decode cX3_init 19 = .ok (.putfield 19, 3) := by decide +kernel
theorem dX3_init_22 : decode cX3_init 22 = .ok (.iconst 0, 1) := by decide +kernel
theorem dX3_init_23 : decode cX3_init 23 = .ok (.istore_n 1, 1) := by decide +kernel
theorem dX3_init_24 : decode cX3_init 24 = .ok (.iload_n 1, 1) := by decide +kernel
theorem dX3_init_25 : decode cX3_init 25 = .ok (.iconst 2, 1) := by decide +kernel
theorem dX3_init_26 : decode cX3_init 26 = .ok (.if_icmp .ge 22, 3) := by decide +kernel
theorem dX3_init_29 : decode cX3_init 29 = .ok (.aload_n 0, 1) := by decide +kernel
theorem dX3_init_30 : decode cX3_init 30 = .ok (.getfield 11, 3) := by decide +kernel
theorem dX3_init_33 : decode cX3_init 33 = .ok (.iload_n 1, 1) := by decide +kernel
theorem dX3_init_34 : decode cX3_init 34 = .ok (.new 9, 3) := by decide +kernel
theorem dX3_init_37 : decode cX3_init 37 = .ok (.dup, 1) := by decide +kernel
theorem dX3_init_38 : decode cX3_init 38 = .ok (.invokespecial 22, 3) := by decide +kernel
theorem dX3_init_41 : decode cX3_init 41 = .ok (.aastore, 1) := by decide +kernel
theorem dX3_init_42 : decode cX3_init 42 = .ok (.iinc 1 1, 3) := by decide +kernel
theorem dX3_init_45 : decode cX3_init 45 = .ok (.goto (-21), 3) := by decide +kernel
theorem dX3_init_48 : decode cX3_init 48 = .ok (.return_, 1) := by decide +kernel
theorem dX3_store_0 : decode cX3_store 0 = .ok (.aload_n 0, 1) := by decide +kernel
theorem dX3_store_1 : decode cX3_store 1 = .ok (.getfield 23, 3) := by decide +kernel
theorem dX3_store_4 : decode cX3_store 4 = .ok (.iconst 2, 1) := by decide +kernel
theorem dX3_store_5 : decode cX3_store 5 = .ok (.if_icmp .ge 51, 3) := by decide +kernel
theorem dX3_store_8 : decode cX3_store 8 = .ok (.aload_n 0, 1) := by decide +kernel
theorem dX3_store_9 : decode cX3_store 9 = .ok (.getfield 11, 3) := by decide +kernel
theorem dX3_store_12 : decode cX3_store 12 = .ok (.aload_n 0, 1) := by decide +kernel
theorem dX3_store_13 : decode cX3_store 13 = .ok (.getfield 23, 3) := by decide +kernel
theorem dX3_store_16 : decode cX3_store 16 = .ok (.aaload, 1) := by decide +kernel
theorem dX3_store_17 : decode cX3_store 17 = .ok (.aload_n 1, 1) := by decide +kernel
theorem dX3_store_18 : decode cX3_store 18 = .ok (.getfield 27, 3) := by decide +kernel
theorem dX3_store_21 : decode cX3_store 21 = .ok (.invokevirtual 32, 3) := by decide +kernel
theorem dX3_store_24 : decode cX3_store 24 = .ok (.aload_n 1, 1) := by decide +kernel
theorem dX3_store_25 : decode cX3_store 25 = .ok (.getfield 36, 3) := by decide +kernel
theorem dX3_store_28 : decode cX3_store 28 = .ok (.getfield 40, 3) := by decide +kernel
theorem dX3_store_31 : decode cX3_store 31 = .ok (.iconst 0, 1) := by decide +kernel
theorem dX3_store_32 : decode cX3_store 32 = .ok (.aload_n 0, 1) := by decide +kernel
theorem dX3_store_33 : decode cX3_store 33 = .ok (.getfield 19, 3) := by decide +kernel
theorem dX3_store_36 : decode cX3_store 36 = .ok (.aload_n 0, 1) := by decide +kernel
theorem dX3_store_37 : decode cX3_store 37 = .ok (.getfield 23, 3) := by decide +kernel
theorem dX3_store_40 : decode cX3_store 40 = .ok (.aaload, 1) := by decide +kernel
theorem dX3_store_41 : decode cX3_store 41 = .ok (.iconst 0, 1) := by decide +kernel
theorem dX3_store_42 : decode cX3_store 42 = .ok (.iconst 4, 1) := by decide +kernel
theorem dX3_store_43 : decode cX3_store 43 = .ok (.invokestatic 45, 3) := by decide +kernel
theorem dX3_store_46 : decode cX3_store 46 = .ok (.aload_n 0, 1) := by decide +kernel
theorem dX3_store_47 : decode cX3_store 47 = .ok (.dup, 1) := by decide +kernel
theorem dX3_store_48 : decode cX3_store 48 = .ok (.getfield 23, 3) := by decide +kernel
theorem dX3_store_51 : decode cX3_store 51 = .ok (.iconst 1, 1) := by decide +kernel
theorem dX3_store_52 : decode cX3_store 52 = .ok (.iadd, 1) := by decide +kernel
theorem dX3_store_53 : decode cX3_store 53 = .ok (.putfield 23, 3) := by decide +kernel
theorem dX3_store_56 : decode cX3_store 56 = .ok (.return_, 1) := by decide +kernel
theorem dX3_restoreLast_0 : decode cX3_restoreLast 0 = .ok (.aload_n 0, 1) := by decide +kernel
theorem dX3_restoreLast_1 : decode cX3_restoreLast 1 = .ok (.getfield 23, 3) := by decide +kernel
theorem dX3_restoreLast_4 : decode cX3_restoreLast 4 = .ok (.ifCond .le 51, 3) := by decide +kernel
theorem dX3_restoreLast_7 : decode cX3_restoreLast 7 = .ok (.aload_n 0, 1) := by decide +kernel
theorem dX3_restoreLast_8 : decode cX3_restoreLast 8 = .ok (.dup, 1) := by decide +kernel
theorem dX3_restoreLast_9 : decode cX3_restoreLast 9 = .ok (.getfield 23, 3) := by decide +kernel
theorem dX3_restoreLast_12 : decode cX3_restoreLast 12 = .ok (.iconst 1, 1) := by decide +kernel
theorem dX3_restoreLast_13 : decode cX3_restoreLast 13 = .ok (.isub, 1) := by decide +kernel
theorem dX3_restoreLast_14 : decode cX3_restoreLast 14 = .ok (.putfield 23, 3) := by decide +kernel
theorem dX3_restoreLast_17 : decode cX3_restoreLast 17 = .ok (.aload_n 1, 1) := by decide +kernel
theorem dX3_restoreLast_18 : decode cX3_restoreLast 18 = .ok (.getfield 27, 3) := by decide +kernel
theorem dX3_restoreLast_21 : decode cX3_restoreLast 21 = .ok (.aload_n 0, 1) := by decide +kernel
theorem dX3_restoreLast_22 : decode cX3_restoreLast 22 = .ok (.getfield 11, 3) := by decide +kernel
theorem dX3_restoreLast_25 : decode cX3_restoreLast 25 = .ok (.aload_n 0, 1) := by decide +kernel
theorem dX3_restoreLast_26 : decode cX3_restoreLast 26 = .ok (.getfield 23, 3) := by decide +kernel
theorem dX3_restoreLast_29 : decode cX3_restoreLast 29 = .ok (.aaload, 1) := by decide +kernel
theorem dX3_restoreLast_30 : decode cX3_restoreLast 30 = .ok (.invokevirtual 32, 3) := by decide +kernel
theorem dX3_restoreLast_33 : decode cX3_restoreLast 33 = .ok (.aload_n 0, 1) := by decide +kernel
theorem dX3_restoreLast_34 : decode cX3_restoreLast 34 = .ok (.getfield 19, 3) := by decide +kernel
theorem dX3_restoreLast_37 : decode cX3_restoreLast 37 = .ok (.aload_n 0, 1) := by decide +kernel
theorem dX3_restoreLast_38 : decode cX3_restoreLast 38 = .ok (.getfield 23, 3) := by decide +kernel
theorem dX3_restoreLast_41 : decode cX3_restoreLast 41 = .ok (.aaload, 1) := by decide +kernel
theorem dX3_restoreLast_42 : decode cX3_restoreLast 42 = .ok (.iconst 0, 1) := by decide +kernel
theorem dX3_restoreLast_43 : decode cX3_restoreLast 43 = .ok (.aload_n 1, 1) := by decide +kernel
theorem dX3_restoreLast_44 : decode cX3_restoreLast 44 = .ok (.getfield 36, 3) := by decide +kernel
theorem dX3_restoreLast_47 : decode cX3_restoreLast 47 = .ok (.getfield 40, 3) := by decide +kernel
theorem dX3_restoreLast_50 : decode cX3_restoreLast 50 = .ok (.iconst 0, 1) := by decide +kernel
theorem dX3_restoreLast_51 : decode cX3_restoreLast 51 = .ok (.iconst 4, 1) := by decide +kernel
theorem dX3_restoreLast_52 : decode cX3_restoreLast 52 = .ok (.invokestatic 45, 3) := by decide +kernel
theorem dX3_restoreLast_55 : decode cX3_restoreLast 55 = .ok (.return_, 1) := by decide +kernel
theorem dX4_init_0 : decode cX4_init 0 = .ok (.aload_n 0, 1) := by decide +kernel
theorem dX4_init_1 : decode cX4_init 1 = .ok (.invokespecial 3, 3) := by decide +kernel
theorem dX4_init_4 : decode cX4_init 4 = .ok (.aload_n 0, 1) := by decide +kernel
theorem dX4_init_5 : decode cX4_init 5 = .ok (.bipush 8, 2) := by decide +kernel
theorem dX4_init_7 : decode cX4_init 7 = .ok (.newarray .int, 2) := by decide +kernel
theorem dX4_init_9 : decode cX4_init 9 = .ok (.putfield 9, 3) := by decide +kernel
theorem dX4_init_12 : decode cX4_init 12 = .ok (.aload_n 0, 1) := by decide +kernel
theorem dX4_init_13 : decode cX4_init 13 = .ok (.bipush 8, 2) := by decide +kernel
theorem dX4_init_15 : decode cX4_init 15 = .ok (.newarray .int, 2) := by decide +kernel
theorem dX4_init_17 : decode cX4_init 17 = .ok (.putfield 15, 3) := by decide +kernel
theorem dX4_init_20 : decode cX4_init 20 = .ok (.aload_n 0, 1) := by decide +kernel
theorem dX4_init_21 : decode cX4_init 21 = .ok (.bipush 8, 2) := by decide +kernel
theorem dX4_init_23 : decode cX4_init 23 = .ok (.newarray .int, 2) := by decide +kernel
theorem dX4_init_25 : decode cX4_init 25 = .ok (.putfield 18, 3) := by decide +kernel
theorem dX4_init_28 : decode cX4_init 28 = .ok (.return_, 1) := by decide +kernel
theorem dX4_add_0 : decode cX4_add 0 = .ok (.aload_n 0, 1) := by decide +kernel
theorem dX4_add_1 : decode cX4_add 1 = .ok (.getfield 21, 3) := by decide +kernel
theorem dX4_add_4 : decode cX4_add 4 = .ok (.bipush 8, 2) := by decide +kernel
theorem dX4_add_6 : decode cX4_add 6 = .ok (.if_icmp .ge 43, 3) := by decide +kernel
theorem dX4_add_9 : decode cX4_add 9 = .ok (.aload_n 0, 1) := by decide +kernel
theorem dX4_add_10 : decode cX4_add 10 = .ok (.getfield 9, 3) := by decide +kernel
theorem dX4_add_13 : decode cX4_add 13 = .ok (.aload_n 0, 1) := by decide +kernel
theorem dX4_add_14 : decode cX4_add 14 = .ok (.getfield 21, 3) := by decide +kernel
theorem dX4_add_17 : decode cX4_add 17 = .ok (.iload_n 1, 1) := by decide +kernel
theorem dX4_add_18 : decode cX4_add 18 = .ok (.iastore, 1) := by decide +kernel
theorem dX4_add_19 : decode cX4_add 19 = .ok (.aload_n 0, 1) := by decide +kernel
theorem dX4_add_20 : decode cX4_add 20 = .ok (.getfield 15, 3) := by decide +kernel
theorem dX4_add_23 : decode cX4_add 23 = .ok (.aload_n 0, 1) := by decide +kernel
theorem dX4_add_24 : decode cX4_add 24 = .ok (.getfield 21, 3) := by decide +kernel
theorem dX4_add_27 : decode cX4_add 27 = .ok (.iload_n 2, 1) := by decide +kernel
theorem dX4_add_28 : decode cX4_add 28 = .ok (.iastore, 1) := by decide +kernel
theorem dX4_add_29 : decode cX4_add 29 = .ok (.aload_n 0, 1) := by decide +kernel
theorem dX4_add_30 : decode cX4_add 30 = .ok (.getfield 18, 3) := by decide +kernel
theorem dX4_add_33 : decode cX4_add 33 = .ok (.aload_n 0, 1) := by decide +kernel
theorem dX4_add_34 : decode cX4_add 34 = .ok (.getfield 21, 3) := by decide +kernel
theorem dX4_add_37 : decode cX4_add 37 = .ok (.iload_n 3, 1) := by decide +kernel
theorem dX4_add_38 : decode cX4_add 38 = .ok (.iastore, 1) := by decide +kernel
theorem dX4_add_39 : decode cX4_add 39 = .ok (.aload_n 0, 1) := by decide +kernel
theorem dX4_add_40 : decode cX4_add 40 = .ok (.dup, 1) := by decide +kernel
theorem dX4_add_41 : decode cX4_add 41 = .ok (.getfield 21, 3) := by decide +kernel
theorem dX4_add_44 : decode cX4_add 44 = .ok (.iconst 1, 1) := by decide +kernel
theorem dX4_add_45 : decode cX4_add 45 = .ok (.iadd, 1) := by decide +kernel
theorem dX4_add_46 : decode cX4_add 46 = .ok (.putfield 21, 3) := by decide +kernel
theorem dX4_add_49 : decode cX4_add 49 = .ok (.return_, 1) := by decide +kernel
theorem dX4_fit_0 : decode cX4_fit 0 = .ok (.iconst 0, 1) := by decide +kernel
theorem dX4_fit_1 : decode cX4_fit 1 = .ok (.istore_n 3, 1) := by decide +kernel
theorem dX4_fit_2 : decode cX4_fit 2 = .ok (.iload_n 3, 1) := by decide +kernel
theorem dX4_fit_3 : decode cX4_fit 3 = .ok (.aload_n 0, 1) := by decide +kernel
theorem dX4_fit_4 : decode cX4_fit 4 = .ok (.getfield 21, 3) := by decide +kernel
theorem dX4_fit_7 : decode cX4_fit 7 = .ok (.if_icmp .ge 40, 3) := by decide +kernel
theorem dX4_fit_10 : decode cX4_fit 10 = .ok (.aload_n 0, 1) := by decide +kernel
theorem dX4_fit_11 : decode cX4_fit 11 = .ok (.getfield 9, 3) := by decide +kernel
theorem dX4_fit_14 : decode cX4_fit 14 = .ok (.iload_n 3, 1) := by decide +kernel
theorem dX4_fit_15 : decode cX4_fit 15 = .ok (.iaload, 1) := by decide +kernel
theorem dX4_fit_16 : decode cX4_fit 16 = .ok (.iload_n 1, 1) := by decide +kernel
theorem dX4_fit_17 : decode cX4_fit 17 = .ok (.if_icmp .ne 24, 3) := by decide +kernel
theorem dX4_fit_20 : decode cX4_fit 20 = .ok (.aload_n 2, 1) := by decide +kernel
theorem dX4_fit_21 : decode cX4_fit 21 = .ok (.aload_n 0, 1) := by decide +kernel
theorem dX4_fit_22 : decode cX4_fit 22 = .ok (.getfield 18, 3) := by decide +kernel
theorem dX4_fit_25 : decode cX4_fit 25 = .ok (.iload_n 3, 1) := by decide +kernel
theorem dX4_fit_26 : decode cX4_fit 26 = .ok (.iaload, 1) := by decide +kernel
theorem dX4_fit_27 : decode cX4_fit 27 = .ok (.invokevirtual 25, 3) := by decide +kernel
theorem dX4_fit_30 : decode cX4_fit 30 = .ok (.aload_n 0, 1) := by decide +kernel
theorem dX4_fit_31 : decode cX4_fit 31 = .ok (.getfield 15, 3) := by decide +kernel
theorem dX4_fit_34 : decode cX4_fit 34 = .ok (.iload_n 3, 1) := by decide +kernel
theorem dX4_fit_35 : decode cX4_fit 35 = .ok (.iaload, 1) := by decide +kernel
theorem dX4_fit_36 : decode cX4_fit 36 = .ok (.if_icmp .eq 5, 3) := by decide +kernel
theorem dX4_fit_39 : decode cX4_fit 39 = .ok (.iconst 0, 1) := by decide +kernel
theorem dX4_fit_40 : decode cX4_fit 40 = .ok (.ireturn, 1) := by decide +kernel
theorem dX4_fit_41 : decode cX4_fit 41 = .ok (.iinc 3 1, 3) := by decide +kernel
theorem dX4_fit_44 : decode cX4_fit 44 = .ok (.goto (-42), 3) := by decide +kernel
theorem dX4_fit_47 : decode cX4_fit 47 = .ok (.iconst 1, 1) := by decide +kernel
theorem dX4_fit_48 : decode cX4_fit 48 = .ok (.ireturn, 1) := by decide +kernel
theorem dX5_init_0 : decode cX5_init 0 = .ok (.aload_n 0, 1) := by decide +kernel
theorem dX5_init_1 : decode cX5_init 1 = .ok (.invokespecial 3, 3) := by decide +kernel
theorem dX5_init_4 : decode cX5_init 4 = .ok (.aload_n 0, 1) := by decide +kernel
theorem dX5_init_5 : decode cX5_init 5 = .ok (.bipush 9, 2) := by decide +kernel
theorem dX5_init_7 : decode cX5_init 7 = .ok (.newarray .int, 2) := by decide +kernel
theorem dX5_init_9 : decode cX5_init 9 = .ok (.putfield 11, 3) := by decide +kernel
theorem dX5_init_12 : decode cX5_init 12 = .ok (.aload_n 0, 1) := by decide +kernel
theorem dX5_init_13 : decode cX5_init 13 = .ok (.bipush 9, 2) := by decide +kernel
theorem dX5_init_15 : decode cX5_init 15 = .ok (.newarray .int, 2) := by decide +kernel
theorem dX5_init_17 : decode cX5_init 17 = .ok (.putfield 15, 3) := by decide +kernel
theorem dX5_init_20 : decode cX5_init 20 = .ok (.aload_n 0, 1) := by decide +kernel
theorem dX5_init_21 : decode cX5_init 21 = .ok (.bipush 9, 2) := by decide +kernel
theorem dX5_init_23 : decode cX5_init 23 = .ok (.newarray .int, 2) := by decide +kernel
theorem dX5_init_25 : decode cX5_init 25 = .ok (.putfield 18, 3) := by decide +kernel
theorem dX5_init_28 : decode cX5_init 28 = .ok (.return_, 1) := by decide +kernel
theorem dX5_insert_0 : decode cX5_insert 0 = .ok (.aload_n 0, 1) := by decide +kernel
theorem dX5_insert_1 : decode cX5_insert 1 = .ok (.getfield 21, 3) := by decide +kernel
theorem dX5_insert_4 : decode cX5_insert 4 = .ok (.bipush 9, 2) := by decide +kernel
theorem dX5_insert_6 : decode cX5_insert 6 = .ok (.if_icmp .ge 15, 3) := by decide +kernel
theorem dX5_insert_9 : decode cX5_insert 9 = .ok (.iload_n 1, 1) := by decide +kernel
theorem dX5_insert_10 : decode cX5_insert 10 = .ok (.ifCond .lt 11, 3) := by decide +kernel
theorem dX5_insert_13 : decode cX5_insert 13 = .ok (.iload_n 1, 1) := by decide +kernel
theorem dX5_insert_14 : decode cX5_insert 14 = .ok (.aload_n 0, 1) := by decide +kernel
theorem dX5_insert_15 : decode cX5_insert 15 = .ok (.getfield 21, 3) := by decide +kernel
theorem dX5_insert_18 : decode cX5_insert 18 = .ok (.if_icmp .le 4, 3) := by decide +kernel
theorem dX5_insert_21 : decode cX5_insert 21 = .ok (.return_, 1) := by decide +kernel
theorem dX5_insert_22 : decode cX5_insert 22 = .ok (.aload_n 0, 1) := by decide +kernel
theorem dX5_insert_23 : decode cX5_insert 23 = .ok (.getfield 21, 3) := by decide +kernel
theorem dX5_insert_26 : decode cX5_insert 26 = .ok (.istore 5, 2) := by decide +kernel
theorem dX5_insert_28 : decode cX5_insert 28 = .ok (.iload 5, 2) := by decide +kernel
theorem dX5_insert_30 : decode cX5_insert 30 = .ok (.iload_n 1, 1) := by decide +kernel
theorem dX5_insert_31 : decode cX5_insert 31 = .ok (.if_icmp .le 19, 3) := by decide +kernel
theorem dX5_insert_34 : decode cX5_insert 34 = .ok (.aload_n 0, 1) := by decide +kernel
theorem dX5_insert_35 : decode cX5_insert 35 = .ok (.iload 5, 2) := by decide +kernel
theorem dX5_insert_37 : decode cX5_insert 37 = .ok (.iconst 1, 1) := by decide +kernel
theorem dX5_insert_38 : decode cX5_insert 38 = .ok (.isub, 1) := by decide +kernel
theorem dX5_insert_39 : decode cX5_insert 39 = .ok (.iload 5, 2) := by decide +kernel
theorem dX5_insert_41 : decode cX5_insert 41 = .ok (.invokevirtual 25, 3) := by decide +kernel
theorem dX5_insert_44 : decode cX5_insert 44 = .ok (.iinc 5 (-1), 3) := by decide +kernel
theorem dX5_insert_47 : decode cX5_insert 47 = .ok (.goto (-19), 3) := by decide +kernel
theorem dX5_insert_50 : decode cX5_insert 50 = .ok (.aload_n 0, 1) := by decide +kernel
theorem dX5_insert_51 : decode cX5_insert 51 = .ok (.getfield 11, 3) := by decide +kernel
theorem dX5_insert_54 : decode cX5_insert 54 = .ok (.iload_n 1, 1) := by decide +kernel
theorem dX5_insert_55 : decode cX5_insert 55 = .ok (.iload_n 2, 1) := by decide +kernel
theorem dX5_insert_56 : decode cX5_insert 56 = .ok (.iastore, 1) := by decide +kernel
theorem dX5_insert_57 : decode cX5_insert 57 = .ok (.aload_n 0, 1) := by decide +kernel
theorem dX5_insert_58 : decode cX5_insert 58 = .ok (.getfield 15, 3) := by decide +kernel
theorem dX5_insert_61 : decode cX5_insert 61 = .ok (.iload_n 1, 1) := by decide +kernel
theorem dX5_insert_62 : decode cX5_insert 62 = .ok (.iload_n 3, 1) := by decide +kernel
theorem dX5_insert_63 : decode cX5_insert 63 = .ok (.iastore, 1) := by decide +kernel
theorem dX5_insert_64 : decode cX5_insert 64 = .ok (.aload_n 0, 1) := by decide +kernel
theorem dX5_insert_65 : decode cX5_insert 65 = .ok (.getfield 18, 3) := by decide +kernel
theorem dX5_insert_68 : decode cX5_insert 68 = .ok (.iload_n 1, 1) := by decide +kernel
theorem dX5_insert_69 : decode cX5_insert 69 = .ok (.iload 4, 2) := by decide +kernel
theorem dX5_insert_71 : decode cX5_insert 71 = .ok (.iastore, 1) := by decide +kernel
theorem dX5_insert_72 : decode cX5_insert 72 = .ok (.aload_n 0, 1) := by decide +kernel
theorem dX5_insert_73 : decode cX5_insert 73 = .ok (.dup, 1) := by decide +kernel
theorem dX5_insert_74 : decode cX5_insert 74 = .ok (.getfield 21, 3) := by decide +kernel
theorem dX5_insert_77 : decode cX5_insert 77 = .ok (.iconst 1, 1) := by decide +kernel
theorem dX5_insert_78 : decode cX5_insert 78 = .ok (.iadd, 1) := by decide +kernel
theorem dX5_insert_79 : decode cX5_insert 79 = .ok (.putfield 21, 3) := by decide +kernel
theorem dX5_insert_82 : decode cX5_insert 82 = .ok (.return_, 1) := by decide +kernel
theorem dX5_remove_0 : decode cX5_remove 0 = .ok (.iload_n 1, 1) := by decide +kernel
theorem dX5_remove_1 : decode cX5_remove 1 = .ok (.ifCond .lt 11, 3) := by decide +kernel
theorem dX5_remove_4 : decode cX5_remove 4 = .ok (.iload_n 1, 1) := by decide +kernel
theorem dX5_remove_5 : decode cX5_remove 5 = .ok (.aload_n 0, 1) := by decide +kernel
theorem dX5_remove_6 : decode cX5_remove 6 = .ok (.getfield 21, 3) := by decide +kernel
theorem dX5_remove_9 : decode cX5_remove 9 = .ok (.if_icmp .lt 4, 3) := by decide +kernel
theorem dX5_remove_12 : decode cX5_remove 12 = .ok (.return_, 1) := by decide +kernel
theorem dX5_remove_13 : decode cX5_remove 13 = .ok (.iload_n 1, 1) := by decide +kernel
theorem dX5_remove_14 : decode cX5_remove 14 = .ok (.iconst 1, 1) := by decide +kernel
theorem dX5_remove_15 : decode cX5_remove 15 = .ok (.iadd, 1) := by decide +kernel
theorem dX5_remove_16 : decode cX5_remove 16 = .ok (.istore_n 2, 1) := by decide +kernel
theorem dX5_remove_17 : decode cX5_remove 17 = .ok (.iload_n 2, 1) := by decide +kernel
theorem dX5_remove_18 : decode cX5_remove 18 = .ok (.aload_n 0, 1) := by decide +kernel
theorem dX5_remove_19 : decode cX5_remove 19 = .ok (.getfield 21, 3) := by decide +kernel
theorem dX5_remove_22 : decode cX5_remove 22 = .ok (.if_icmp .ge 17, 3) := by decide +kernel
theorem dX5_remove_25 : decode cX5_remove 25 = .ok (.aload_n 0, 1) := by decide +kernel
theorem dX5_remove_26 : decode cX5_remove 26 = .ok (.iload_n 2, 1) := by decide +kernel
theorem dX5_remove_27 : decode cX5_remove 27 = .ok (.iload_n 2, 1) := by decide +kernel
theorem dX5_remove_28 : decode cX5_remove 28 = .ok (.iconst 1, 1) := by decide +kernel
theorem dX5_remove_29 : decode cX5_remove 29 = .ok (.isub, 1) := by decide +kernel
theorem dX5_remove_30 : decode cX5_remove 30 = .ok (.invokevirtual 25, 3) := by decide +kernel
theorem dX5_remove_33 : decode cX5_remove 33 = .ok (.iinc 2 1, 3) := by decide +kernel
theorem dX5_remove_36 : decode cX5_remove 36 = .ok (.goto (-19), 3) := by decide +kernel
theorem dX5_remove_39 : decode cX5_remove 39 = .ok (.aload_n 0, 1) := by decide +kernel
theorem dX5_remove_40 : decode cX5_remove 40 = .ok (.dup, 1) := by decide +kernel
theorem dX5_remove_41 : decode cX5_remove 41 = .ok (.getfield 21, 3) := by decide +kernel
theorem dX5_remove_44 : decode cX5_remove 44 = .ok (.iconst 1, 1) := by decide +kernel
theorem dX5_remove_45 : decode cX5_remove 45 = .ok (.isub, 1) := by decide +kernel
theorem dX5_remove_46 : decode cX5_remove 46 = .ok (.putfield 21, 3) := by decide +kernel
theorem dX5_remove_49 : decode cX5_remove 49 = .ok (.return_, 1) := by decide +kernel
theorem dX5_move_0 : decode cX5_move 0 = .ok (.aload_n 0, 1) := by decide +kernel
theorem dX5_move_1 : decode cX5_move 1 = .ok (.getfield 11, 3) := by decide +kernel
theorem dX5_move_4 : decode cX5_move 4 = .ok (.iload_n 2, 1) := by decide +kernel
theorem dX5_move_5 : decode cX5_move 5 = .ok (.aload_n 0, 1) := by decide +kernel
theorem dX5_move_6 : decode cX5_move 6 = .ok (.getfield 11, 3) := by decide +kernel
theorem dX5_move_9 : decode cX5_move 9 = .ok (.iload_n 1, 1) := by decide +kernel
theorem dX5_move_10 : decode cX5_move 10 = .ok (.iaload, 1) := by decide +kernel
theorem dX5_move_11 : decode cX5_move 11 = .ok (.iastore, 1) := by decide +kernel
theorem dX5_move_12 : decode cX5_move 12 = .ok (.aload_n 0, 1) := by decide +kernel
theorem dX5_move_13 : decode cX5_move 13 = .ok (.getfield 15, 3) := by decide +kernel
theorem dX5_move_16 : decode cX5_move 16 = .ok (.iload_n 2, 1) := by decide +kernel
theorem dX5_move_17 : decode cX5_move 17 = .ok (.aload_n 0, 1) := by decide +kernel
theorem dX5_move_18 : decode cX5_move 18 = .ok (.getfield 15, 3) := by decide +kernel
theorem dX5_move_21 : decode cX5_move 21 = .ok (.iload_n 1, 1) := by decide +kernel
theorem dX5_move_22 : decode cX5_move 22 = .ok (.iaload, 1) := by decide +kernel
theorem dX5_move_23 : decode cX5_move 23 = .ok (.iastore, 1) := by decide +kernel
theorem dX5_move_24 : decode cX5_move 24 = .ok (.aload_n 0, 1) := by decide +kernel
theorem dX5_move_25 : decode cX5_move 25 = .ok (.getfield 18, 3) := by decide +kernel
theorem dX5_move_28 : decode cX5_move 28 = .ok (.iload_n 2, 1) := by decide +kernel
theorem dX5_move_29 : decode cX5_move 29 = .ok (.aload_n 0, 1) := by decide +kernel
theorem dX5_move_30 : decode cX5_move 30 = .ok (.getfield 18, 3) := by decide +kernel
theorem dX5_move_33 : decode cX5_move 33 = .ok (.iload_n 1, 1) := by decide +kernel
theorem dX5_move_34 : decode cX5_move 34 = .ok (.iaload, 1) := by decide +kernel
theorem dX5_move_35 : decode cX5_move 35 = .ok (.iastore, 1) := by decide +kernel
theorem dX5_move_36 : decode cX5_move 36 = .ok (.return_, 1) := by decide +kernel
theorem dX5_copyFrom_0 : decode cX5_copyFrom 0 = .ok (.aload_n 1, 1) := by decide +kernel
theorem dX5_copyFrom_1 : decode cX5_copyFrom 1 = .ok (.getfield 11, 3) := by decide +kernel
theorem dX5_copyFrom_4 : decode cX5_copyFrom 4 = .ok (.iconst 0, 1) := by decide +kernel
theorem dX5_copyFrom_5 : decode cX5_copyFrom 5 = .ok (.aload_n 0, 1) := by decide +kernel
theorem dX5_copyFrom_6 : decode cX5_copyFrom 6 = .ok (.getfield 11, 3) := by decide +kernel
theorem dX5_copyFrom_9 : decode cX5_copyFrom 9 = .ok (.iconst 0, 1) := by decide +kernel
theorem dX5_copyFrom_10 : decode cX5_copyFrom 10 = .ok (.bipush 9, 2) := by decide +kernel
theorem dX5_copyFrom_12 : decode cX5_copyFrom 12 = .ok (.invokestatic 29, 3) := by decide +kernel
theorem dX5_copyFrom_15 : decode cX5_copyFrom 15 = .ok (.aload_n 1, 1) := by decide +kernel
theorem dX5_copyFrom_16 : decode cX5_copyFrom 16 = .ok (.getfield 15, 3) := by decide +kernel
theorem dX5_copyFrom_19 : decode cX5_copyFrom 19 = .ok (.iconst 0, 1) := by decide +kernel
theorem dX5_copyFrom_20 : decode cX5_copyFrom 20 = .ok (.aload_n 0, 1) := by decide +kernel
theorem dX5_copyFrom_21 : decode cX5_copyFrom 21 = .ok (.getfield 15, 3) := by decide +kernel
theorem dX5_copyFrom_24 : decode cX5_copyFrom 24 = .ok (.iconst 0, 1) := by decide +kernel
theorem dX5_copyFrom_25 : decode cX5_copyFrom 25 = .ok (.bipush 9, 2) := by decide +kernel
theorem dX5_copyFrom_27 : decode cX5_copyFrom 27 = .ok (.invokestatic 29, 3) := by decide +kernel
theorem dX5_copyFrom_30 : decode cX5_copyFrom 30 = .ok (.aload_n 1, 1) := by decide +kernel
theorem dX5_copyFrom_31 : decode cX5_copyFrom 31 = .ok (.getfield 18, 3) := by decide +kernel
theorem dX5_copyFrom_34 : decode cX5_copyFrom 34 = .ok (.iconst 0, 1) := by decide +kernel
theorem dX5_copyFrom_35 : decode cX5_copyFrom 35 = .ok (.aload_n 0, 1) := by decide +kernel
theorem dX5_copyFrom_36 : decode cX5_copyFrom 36 = .ok (.getfield 18, 3) := by decide +kernel
theorem dX5_copyFrom_39 : decode cX5_copyFrom 39 = .ok (.iconst 0, 1) := by decide +kernel
theorem dX5_copyFrom_40 : decode cX5_copyFrom 40 = .ok (.bipush 9, 2) := by decide +kernel
theorem dX5_copyFrom_42 : decode cX5_copyFrom 42 = .ok (.invokestatic 29, 3) := by decide +kernel
theorem dX5_copyFrom_45 : decode cX5_copyFrom 45 = .ok (.aload_n 0, 1) := by decide +kernel
theorem dX5_copyFrom_46 : decode cX5_copyFrom 46 = .ok (.aload_n 1, 1) := by decide +kernel
theorem dX5_copyFrom_47 : decode cX5_copyFrom 47 = .ok (.getfield 21, 3) := by decide +kernel
theorem dX5_copyFrom_50 : decode cX5_copyFrom 50 = .ok (.putfield 21, 3) := by decide +kernel
theorem dX5_copyFrom_53 : decode cX5_copyFrom 53 = .ok (.return_, 1) := by decide +kernel
theorem dX5_latestFor_0 : decode cX5_latestFor 0 = .ok (.aload_n 0, 1) := by decide +kernel
theorem dX5_latestFor_1 : decode cX5_latestFor 1 = .ok (.getfield 21, 3) := by decide +kernel
theorem dX5_latestFor_4 : decode cX5_latestFor 4 = .ok (.iconst 1, 1) := by decide +kernel
theorem dX5_latestFor_5 : decode cX5_latestFor 5 = .ok (.isub, 1) := by decide +kernel
theorem dX5_latestFor_6 : decode cX5_latestFor 6 = .ok (.istore_n 3, 1) := by decide +kernel
theorem dX5_latestFor_7 : decode cX5_latestFor 7 = .ok (.iload_n 3, 1) := by decide +kernel
theorem dX5_latestFor_8 : decode cX5_latestFor 8 = .ok (.ifCond .lt 36, 3) := by decide +kernel
theorem dX5_latestFor_11 : decode cX5_latestFor 11 = .ok (.aload_n 0, 1) := by decide +kernel
theorem dX5_latestFor_12 : decode cX5_latestFor 12 = .ok (.getfield 11, 3) := by decide +kernel
theorem dX5_latestFor_15 : decode cX5_latestFor 15 = .ok (.iload_n 3, 1) := by decide +kernel
theorem dX5_latestFor_16 : decode cX5_latestFor 16 = .ok (.iaload, 1) := by decide +kernel
theorem dX5_latestFor_17 : decode cX5_latestFor 17 = .ok (.iload_n 1, 1) := by decide +kernel
theorem dX5_latestFor_18 : decode cX5_latestFor 18 = .ok (.if_icmp .ne 20, 3) := by decide +kernel
theorem dX5_latestFor_21 : decode cX5_latestFor 21 = .ok (.aload_n 0, 1) := by decide +kernel
theorem dX5_latestFor_22 : decode cX5_latestFor 22 = .ok (.getfield 15, 3) := by decide +kernel
theorem dX5_latestFor_25 : decode cX5_latestFor 25 = .ok (.iload_n 3, 1) := by decide +kernel
theorem dX5_latestFor_26 : decode cX5_latestFor 26 = .ok (.iaload, 1) := by decide +kernel
theorem dX5_latestFor_27 : decode cX5_latestFor 27 = .ok (.iload_n 2, 1) := by decide +kernel
theorem dX5_latestFor_28 : decode cX5_latestFor 28 = .ok (.if_icmp .ne 10, 3) := by decide +kernel
theorem dX5_latestFor_31 : decode cX5_latestFor 31 = .ok (.aload_n 0, 1) := by decide +kernel
theorem dX5_latestFor_32 : decode cX5_latestFor 32 = .ok (.getfield 18, 3) := by decide +kernel
theorem dX5_latestFor_35 : decode cX5_latestFor 35 = .ok (.iload_n 3, 1) := by decide +kernel
theorem dX5_latestFor_36 : decode cX5_latestFor 36 = .ok (.iaload, 1) := by decide +kernel
theorem dX5_latestFor_37 : decode cX5_latestFor 37 = .ok (.ireturn, 1) := by decide +kernel
theorem dX5_latestFor_38 : decode cX5_latestFor 38 = .ok (.iinc 3 (-1), 3) := by decide +kernel
theorem dX5_latestFor_41 : decode cX5_latestFor 41 = .ok (.goto (-34), 3) := by decide +kernel
theorem dX5_latestFor_44 : decode cX5_latestFor 44 = .ok (.iconst (-1), 1) := by decide +kernel
theorem dX5_latestFor_45 : decode cX5_latestFor 45 = .ok (.ireturn, 1) := by decide +kernel
theorem dX6_init_0 : decode cX6_init 0 = .ok (.aload_n 0, 1) := by decide +kernel
theorem dX6_init_1 : decode cX6_init 1 = .ok (.invokespecial 3, 3) := by decide +kernel
theorem dX6_init_4 : decode cX6_init 4 = .ok (.aload_n 0, 1) := by decide +kernel
theorem dX6_init_5 : decode cX6_init 5 = .ok (.bipush 12, 2) := by decide +kernel
theorem dX6_init_7 : decode cX6_init 7 = .ok (.newarray .int, 2) := by decide +kernel
theorem dX6_init_9 : decode cX6_init 9 = .ok (.putfield 9, 3) := by decide +kernel
theorem dX6_init_12 : decode cX6_init 12 = .ok (.aload_n 0, 1) := by decide +kernel
theorem dX6_init_13 : decode cX6_init 13 = .ok (.bipush 12, 2) := by decide +kernel
theorem dX6_init_15 : decode cX6_init 15 = .ok (.newarray .int, 2) := by decide +kernel
theorem dX6_init_17 : decode cX6_init 17 = .ok (.putfield 15, 3) := by decide +kernel
theorem dX6_init_20 : decode cX6_init 20 = .ok (.aload_n 0, 1) := by decide +kernel
theorem dX6_init_21 : decode cX6_init 21 = .ok (.bipush 8, 2) := by decide +kernel
theorem dX6_init_23 : decode cX6_init 23 = .ok (.bipush 8, 2) := by decide +kernel
theorem dX6_init_25 : decode cX6_init 25 = .ok (.multianewarray 18 2, 4) := by decide +kernel
theorem dX6_init_29 : decode cX6_init 29 = .ok (.putfield 20, 3) := by decide +kernel
theorem dX6_init_32 : decode cX6_init 32 = .ok (.aload_n 0, 1) := by decide +kernel
theorem dX6_init_33 : decode cX6_init 33 = .ok (.bipush 8, 2) := by decide +kernel
theorem dX6_init_35 : decode cX6_init 35 = .ok (.bipush 8, 2) := by decide +kernel
theorem dX6_init_37 : decode cX6_init 37 = .ok (.multianewarray 18 2, 4) := by decide +kernel
theorem dX6_init_41 : decode cX6_init 41 = .ok (.putfield 23, 3) := by decide +kernel
theorem dX6_init_44 : decode cX6_init 44 = .ok (.return_, 1) := by decide +kernel
theorem dX6_clear_0 : decode cX6_clear 0 = .ok (.aload_n 0, 1) := by decide +kernel
theorem dX6_clear_1 : decode cX6_clear 1 = .ok (.iconst 4, 1) := by decide +kernel
theorem dX6_clear_2 : decode cX6_clear 2 = .ok (.putfield 26, 3) := by decide +kernel
theorem dX6_clear_5 : decode cX6_clear 5 = .ok (.aload_n 0, 1) := by decide +kernel
theorem dX6_clear_6 : decode cX6_clear 6 = .ok (.iconst 0, 1) := by decide +kernel
theorem dX6_clear_7 : decode cX6_clear 7 = .ok (.putfield 30, 3) := by decide +kernel
theorem dX6_clear_10 : decode cX6_clear 10 = .ok (.iconst 0, 1) := by decide +kernel
theorem dX6_clear_11 : decode cX6_clear 11 = .ok (.istore_n 1, 1) := by decide +kernel
theorem dX6_clear_12 : decode cX6_clear 12 = .ok (.iload_n 1, 1) := by decide +kernel
theorem dX6_clear_13 : decode cX6_clear 13 = .ok (.bipush 8, 2) := by decide +kernel
theorem dX6_clear_15 : decode cX6_clear 15 = .ok (.if_icmp .ge 19, 3) := by decide +kernel
theorem dX6_clear_18 : decode cX6_clear 18 = .ok (.aload_n 0, 1) := by decide +kernel
theorem dX6_clear_19 : decode cX6_clear 19 = .ok (.getfield 20, 3) := by decide +kernel
theorem dX6_clear_22 : decode cX6_clear 22 = .ok (.iload_n 1, 1) := by decide +kernel
theorem dX6_clear_23 : decode cX6_clear 23 = .ok (.aaload, 1) := by decide +kernel
theorem dX6_clear_24 : decode cX6_clear 24 = .ok (.iconst 0, 1) := by decide +kernel
theorem dX6_clear_25 : decode cX6_clear 25 = .ok (.invokestatic 33, 3) := by decide +kernel
theorem dX6_clear_28 : decode cX6_clear 28 = .ok (.iinc 1 1, 3) := by decide +kernel
theorem dX6_clear_31 : decode cX6_clear 31 = .ok (.goto (-19), 3) := by decide +kernel
theorem dX6_clear_34 : decode cX6_clear 34 = .ok (.return_, 1) := by decide +kernel
theorem dX6_add_0 : decode cX6_add 0 = .ok (.aload_n 0, 1) := by decide +kernel
theorem dX6_add_1 : decode cX6_add 1 = .ok (.getfield 30, 3) := by decide +kernel
theorem dX6_add_4 : decode cX6_add 4 = .ok (.bipush 12, 2) := by decide +kernel
theorem dX6_add_6 : decode cX6_add 6 = .ok (.if_icmp .ge 51, 3) := by decide +kernel
theorem dX6_add_9 : decode cX6_add 9 = .ok (.aload_n 0, 1) := by decide +kernel
theorem dX6_add_10 : decode cX6_add 10 = .ok (.getfield 9, 3) := by decide +kernel
theorem dX6_add_13 : decode cX6_add 13 = .ok (.aload_n 0, 1) := by decide +kernel
theorem dX6_add_14 : decode cX6_add 14 = .ok (.getfield 30, 3) := by decide +kernel
theorem dX6_add_17 : decode cX6_add 17 = .ok (.iload_n 1, 1) := by decide +kernel
theorem dX6_add_18 : decode cX6_add 18 = .ok (.iastore, 1) := by decide +kernel
theorem dX6_add_19 : decode cX6_add 19 = .ok (.aload_n 0, 1) := by decide +kernel
theorem dX6_add_20 : decode cX6_add 20 = .ok (.getfield 15, 3) := by decide +kernel
end
section
theorem dX6_add_23 : decode cX6_add 23 = .ok (.aload_n 0, 1) := by decide +kernel
theorem dX6_add_24 : decode cX6_add 24 = .ok (.getfield 30, 3) := by decide +kernel
theorem dX6_add_27 : decode cX6_add 27 = .ok (.iload_n 2, 1) := by decide +kernel
theorem dX6_add_28 : decode cX6_add 28 = .ok (.iastore, 1) := by decide +kernel
theorem dX6_add_29 : decode cX6_add 29 = .ok (.aload_n 0, 1) := by decide +kernel
theorem dX6_add_30 : decode cX6_add 30 = .ok (.getfield 20, 3) := by decide +kernel
theorem dX6_add_33 : decode cX6_add 33 = .ok (.iload_n 1, 1) := by decide +kernel
theorem dX6_add_34 : decode cX6_add 34 = .ok (.aaload, 1) := by decide +kernel
theorem dX6_add_35 : decode cX6_add 35 = .ok (.iload_n 2, 1) := by decide +kernel
theorem dX6_add_36 : decode cX6_add 36 = .ok (.iload_n 3, 1) := by decide +kernel
theorem dX6_add_37 : decode cX6_add 37 = .ok (.iastore, 1) := by decide +kernel
theorem dX6_add_38 : decode cX6_add 38 = .ok (.aload_n 0, 1) := by decide +kernel
theorem dX6_add_39 : decode cX6_add 39 = .ok (.getfield 20, 3) := by decide +kernel
theorem dX6_add_42 : decode cX6_add 42 = .ok (.iload_n 2, 1) := by decide +kernel
theorem dX6_add_43 : decode cX6_add 43 = .ok (.aaload, 1) := by decide +kernel
theorem dX6_add_44 : decode cX6_add 44 = .ok (.iload_n 1, 1) := by decide +kernel
theorem dX6_add_45 : decode cX6_add 45 = .ok (.iload_n 3, 1) := by decide +kernel
theorem dX6_add_46 : decode cX6_add 46 = .ok (.iastore, 1) := by decide +kernel
theorem dX6_add_47 : decode cX6_add 47 = .ok (.aload_n 0, 1) := by decide +kernel
theorem dX6_add_48 : decode cX6_add 48 = .ok (.dup, 1) := by decide +kernel
theorem dX6_add_49 : decode cX6_add 49 = .ok (.getfield 30, 3) := by decide +kernel
theorem dX6_add_52 : decode cX6_add 52 = .ok (.iconst 1, 1) := by decide +kernel
theorem dX6_add_53 : decode cX6_add 53 = .ok (.iadd, 1) := by decide +kernel
theorem dX6_add_54 : decode cX6_add 54 = .ok (.putfield 30, 3) := by decide +kernel
theorem dX6_add_57 : decode cX6_add 57 = .ok (.return_, 1) := by decide +kernel
theorem dX6_measure_0 : decode cX6_measure 0 = .ok (.iconst 0, 1) := by decide +kernel
theorem dX6_measure_1 : decode cX6_measure 1 = .ok (.istore_n 3, 1) := by decide +kernel
theorem dX6_measure_2 : decode cX6_measure 2 = .ok (.iload_n 3, 1) := by decide +kernel
theorem dX6_measure_3 : decode cX6_measure 3 = .ok (.bipush 8, 2) := by decide +kernel
theorem dX6_measure_5 : decode cX6_measure 5 = .ok (.if_icmp .ge 23, 3) := by decide +kernel
theorem dX6_measure_8 : decode cX6_measure 8 = .ok (.aload_n 1, 1) := by decide +kernel
theorem dX6_measure_9 : decode cX6_measure 9 = .ok (.iload_n 3, 1) := by decide +kernel
theorem dX6_measure_10 : decode cX6_measure 10 = .ok (.aaload, 1) := by decide +kernel
theorem dX6_measure_11 : decode cX6_measure 11 = .ok (.bipush (-4), 2) := by decide +kernel
theorem dX6_measure_13 : decode cX6_measure 13 = .ok (.invokestatic 33, 3) := by decide +kernel
theorem dX6_measure_16 : decode cX6_measure 16 = .ok (.aload_n 1, 1) := by decide +kernel
theorem dX6_measure_17 : decode cX6_measure 17 = .ok (.iload_n 3, 1) := by decide +kernel
theorem dX6_measure_18 : decode cX6_measure 18 = .ok (.aaload, 1) := by decide +kernel
theorem dX6_measure_19 : decode cX6_measure 19 = .ok (.iload_n 3, 1) := by decide +kernel
theorem dX6_measure_20 : decode cX6_measure 20 = .ok (.iconst 0, 1) := by decide +kernel
theorem dX6_measure_21 : decode cX6_measure 21 = .ok (.iastore, 1) := by decide +kernel
theorem dX6_measure_22 : decode cX6_measure 22 = .ok (.iinc 3 1, 3) := by decide +kernel
theorem dX6_measure_25 : decode cX6_measure 25 = .ok (.goto (-23), 3) := by decide +kernel
theorem dX6_measure_28 : decode cX6_measure 28 = .ok (.iconst 0, 1) := by decide +kernel
theorem dX6_measure_29 : decode cX6_measure 29 = .ok (.istore_n 3, 1) := by decide +kernel
theorem dX6_measure_30 : decode cX6_measure 30 = .ok (.iload_n 3, 1) := by decide +kernel
theorem dX6_measure_31 : decode cX6_measure 31 = .ok (.aload_n 0, 1) := by decide +kernel
theorem dX6_measure_32 : decode cX6_measure 32 = .ok (.getfield 30, 3) := by decide +kernel
theorem dX6_measure_35 : decode cX6_measure 35 = .ok (.if_icmp .ge 64, 3) := by decide +kernel
theorem dX6_measure_38 : decode cX6_measure 38 = .ok (.aload_n 0, 1) := by decide +kernel
theorem dX6_measure_39 : decode cX6_measure 39 = .ok (.getfield 9, 3) := by decide +kernel
theorem dX6_measure_42 : decode cX6_measure 42 = .ok (.iload_n 3, 1) := by decide +kernel
theorem dX6_measure_43 : decode cX6_measure 43 = .ok (.iaload, 1) := by decide +kernel
theorem dX6_measure_44 : decode cX6_measure 44 = .ok (.istore 4, 2) := by decide +kernel
theorem dX6_measure_46 : decode cX6_measure 46 = .ok (.aload_n 0, 1) := by decide +kernel
theorem dX6_measure_47 : decode cX6_measure 47 = .ok (.getfield 15, 3) := by decide +kernel
theorem dX6_measure_50 : decode cX6_measure 50 = .ok (.iload_n 3, 1) := by decide +kernel
theorem dX6_measure_51 : decode cX6_measure 51 = .ok (.iaload, 1) := by decide +kernel
theorem dX6_measure_52 : decode cX6_measure 52 = .ok (.istore 5, 2) := by decide +kernel
theorem dX6_measure_54 : decode cX6_measure 54 = .ok (.iload_n 3, 1) := by decide +kernel
theorem dX6_measure_55 : decode cX6_measure 55 = .ok (.iload_n 2, 1) := by decide +kernel
theorem dX6_measure_56 : decode cX6_measure 56 = .ok (.if_icmp .eq 37, 3) := by decide +kernel
theorem dX6_measure_59 : decode cX6_measure 59 = .ok (.aload_n 1, 1) := by decide +kernel
theorem dX6_measure_60 : decode cX6_measure 60 = .ok (.iload 4, 2) := by decide +kernel
theorem dX6_measure_62 : decode cX6_measure 62 = .ok (.aaload, 1) := by decide +kernel
theorem dX6_measure_63 : decode cX6_measure 63 = .ok (.iload 5, 2) := by decide +kernel
theorem dX6_measure_65 : decode cX6_measure 65 = .ok (.aload_n 0, 1) := by decide +kernel
theorem dX6_measure_66 : decode cX6_measure 66 = .ok (.getfield 20, 3) := by decide +kernel
theorem dX6_measure_69 : decode cX6_measure 69 = .ok (.iload 4, 2) := by decide +kernel
theorem dX6_measure_71 : decode cX6_measure 71 = .ok (.aaload, 1) := by decide +kernel
theorem dX6_measure_72 : decode cX6_measure 72 = .ok (.iload 5, 2) := by decide +kernel
theorem dX6_measure_74 : decode cX6_measure 74 = .ok (.iaload, 1) := by decide +kernel
theorem dX6_measure_75 : decode cX6_measure 75 = .ok (.iastore, 1) := by decide +kernel
theorem dX6_measure_76 : decode cX6_measure 76 = .ok (.aload_n 1, 1) := by decide +kernel
theorem dX6_measure_77 : decode cX6_measure 77 = .ok (.iload 5, 2) := by decide +kernel
theorem dX6_measure_79 : decode cX6_measure 79 = .ok (.aaload, 1) := by decide +kernel
theorem dX6_measure_80 : decode cX6_measure 80 = .ok (.iload 4, 2) := by decide +kernel
theorem dX6_measure_82 : decode cX6_measure 82 = .ok (.aload_n 0, 1) := by decide +kernel
theorem dX6_measure_83 : decode cX6_measure 83 = .ok (.getfield 20, 3) := by decide +kernel
theorem dX6_measure_86 : decode cX6_measure 86 = .ok (.iload 4, 2) := by decide +kernel
theorem dX6_measure_88 : decode cX6_measure 88 = .ok (.aaload, 1) := by decide +kernel
theorem dX6_measure_89 : decode cX6_measure 89 = .ok (.iload 5, 2) := by decide +kernel
theorem dX6_measure_91 : decode cX6_measure 91 = .ok (.iaload, 1) := by decide +kernel
theorem dX6_measure_92 : decode cX6_measure 92 = .ok (.iastore, 1) := by decide +kernel
theorem dX6_measure_93 : decode cX6_measure 93 = .ok (.iinc 3 1, 3) := by decide +kernel
theorem dX6_measure_96 : decode cX6_measure 96 = .ok (.goto (-66), 3) := by decide +kernel
theorem dX6_measure_99 : decode cX6_measure 99 = .ok (.iconst 0, 1) := by decide +kernel
theorem dX6_measure_100 : decode cX6_measure 100 = .ok (.istore_n 3, 1) := by decide +kernel
theorem dX6_measure_101 : decode cX6_measure 101 = .ok (.iload_n 3, 1) := by decide +kernel
theorem dX6_measure_102 : decode cX6_measure 102 = .ok (.aload_n 0, 1) := by decide +kernel
theorem dX6_measure_103 : decode cX6_measure 103 = .ok (.getfield 26, 3) := by decide +kernel
theorem dX6_measure_106 : decode cX6_measure 106 = .ok (.if_icmp .ge 15, 3) := by decide +kernel
theorem dX6_measure_109 : decode cX6_measure 109 = .ok (.aload_n 0, 1) := by decide +kernel
theorem dX6_measure_110 : decode cX6_measure 110 = .ok (.aload_n 1, 1) := by decide +kernel
theorem dX6_measure_111 : decode cX6_measure 111 = .ok (.iload_n 3, 1) := by decide +kernel
theorem dX6_measure_112 : decode cX6_measure 112 = .ok (.invokevirtual 39, 3) := by decide +kernel
theorem dX6_measure_115 : decode cX6_measure 115 = .ok (.iinc 3 1, 3) := by decide +kernel
theorem dX6_measure_118 : decode cX6_measure 118 = .ok (.goto (-17), 3) := by decide +kernel
theorem dX6_measure_121 : decode cX6_measure 121 = .ok (.return_, 1) := by decide +kernel
theorem dX6_shortenBy_0 : decode cX6_shortenBy 0 = .ok (.iconst 0, 1) := by decide +kernel
theorem dX6_shortenBy_1 : decode cX6_shortenBy 1 = .ok (.istore_n 3, 1) := by decide +kernel
theorem dX6_shortenBy_2 : decode cX6_shortenBy 2 = .ok (.iload_n 3, 1) := by decide +kernel
theorem dX6_shortenBy_3 : decode cX6_shortenBy 3 = .ok (.aload_n 0, 1) := by decide +kernel
theorem dX6_shortenBy_4 : decode cX6_shortenBy 4 = .ok (.getfield 26, 3) := by decide +kernel
theorem dX6_shortenBy_7 : decode cX6_shortenBy 7 = .ok (.if_icmp .ge 92, 3) := by decide +kernel
theorem dX6_shortenBy_10 : decode cX6_shortenBy 10 = .ok (.aload_n 1, 1) := by decide +kernel
theorem dX6_shortenBy_11 : decode cX6_shortenBy 11 = .ok (.iload_n 3, 1) := by decide +kernel
theorem dX6_shortenBy_12 : decode cX6_shortenBy 12 = .ok (.aaload, 1) := by decide +kernel
theorem dX6_shortenBy_13 : decode cX6_shortenBy 13 = .ok (.iload_n 2, 1) := by decide +kernel
theorem dX6_shortenBy_14 : decode cX6_shortenBy 14 = .ok (.iaload, 1) := by decide +kernel
theorem dX6_shortenBy_15 : decode cX6_shortenBy 15 = .ok (.istore 4, 2) := by decide +kernel
theorem dX6_shortenBy_17 : decode cX6_shortenBy 17 = .ok (.iconst 0, 1) := by decide +kernel
theorem dX6_shortenBy_18 : decode cX6_shortenBy 18 = .ok (.istore 5, 2) := by decide +kernel
theorem dX6_shortenBy_20 : decode cX6_shortenBy 20 = .ok (.iload 5, 2) := by decide +kernel
theorem dX6_shortenBy_22 : decode cX6_shortenBy 22 = .ok (.aload_n 0, 1) := by decide +kernel
theorem dX6_shortenBy_23 : decode cX6_shortenBy 23 = .ok (.getfield 26, 3) := by decide +kernel
theorem dX6_shortenBy_26 : decode cX6_shortenBy 26 = .ok (.if_icmp .ge 67, 3) := by decide +kernel
theorem dX6_shortenBy_29 : decode cX6_shortenBy 29 = .ok (.iload 4, 2) := by decide +kernel
theorem dX6_shortenBy_31 : decode cX6_shortenBy 31 = .ok (.bipush (-4), 2) := by decide +kernel
theorem dX6_shortenBy_33 : decode cX6_shortenBy 33 = .ok (.if_icmp .eq 60, 3) := by decide +kernel
theorem dX6_shortenBy_36 : decode cX6_shortenBy 36 = .ok (.aload_n 1, 1) := by decide +kernel
theorem dX6_shortenBy_37 : decode cX6_shortenBy 37 = .ok (.iload_n 2, 1) := by decide +kernel
theorem dX6_shortenBy_38 : decode cX6_shortenBy 38 = .ok (.aaload, 1) := by decide +kernel
theorem dX6_shortenBy_39 : decode cX6_shortenBy 39 = .ok (.iload 5, 2) := by decide +kernel
theorem dX6_shortenBy_41 : decode cX6_shortenBy 41 = .ok (.iaload, 1) := by decide +kernel
theorem dX6_shortenBy_42 : decode cX6_shortenBy 42 = .ok (.istore 6, 2) := by decide +kernel
theorem dX6_shortenBy_44 : decode cX6_shortenBy 44 = .ok (.iload 6, 2) := by decide +kernel
theorem dX6_shortenBy_46 : decode cX6_shortenBy 46 = .ok (.bipush (-4), 2) := by decide +kernel
theorem dX6_shortenBy_48 : decode cX6_shortenBy 48 = .ok (.if_icmp .eq 39, 3) := by decide +kernel
theorem dX6_shortenBy_51 : decode cX6_shortenBy 51 = .ok (.aload_n 1, 1) := by decide +kernel
theorem dX6_shortenBy_52 : decode cX6_shortenBy 52 = .ok (.iload_n 3, 1) := by decide +kernel
theorem dX6_shortenBy_53 : decode cX6_shortenBy 53 = .ok (.aaload, 1) := by decide +kernel
theorem dX6_shortenBy_54 : decode cX6_shortenBy 54 = .ok (.iload 5, 2) := by decide +kernel
theorem dX6_shortenBy_56 : decode cX6_shortenBy 56 = .ok (.iaload, 1) := by decide +kernel
theorem dX6_shortenBy_57 : decode cX6_shortenBy 57 = .ok (.bipush (-4), 2) := by decide +kernel
theorem dX6_shortenBy_59 : decode cX6_shortenBy 59 = .ok (.if_icmp .eq 17, 3) := by decide +kernel
theorem dX6_shortenBy_62 : decode cX6_shortenBy 62 = .ok (.iload 4, 2) := by decide +kernel
theorem dX6_shortenBy_64 : decode cX6_shortenBy 64 = .ok (.iload 6, 2) := by decide +kernel
theorem dX6_shortenBy_66 : decode cX6_shortenBy 66 = .ok (.iadd, 1) := by decide +kernel
theorem dX6_shortenBy_67 : decode cX6_shortenBy 67 = .ok (.aload_n 1, 1) := by decide +kernel
theorem dX6_shortenBy_68 : decode cX6_shortenBy 68 = .ok (.iload_n 3, 1) := by decide +kernel
theorem dX6_shortenBy_69 : decode cX6_shortenBy 69 = .ok (.aaload, 1) := by decide +kernel
theorem dX6_shortenBy_70 : decode cX6_shortenBy 70 = .ok (.iload 5, 2) := by decide +kernel
theorem dX6_shortenBy_72 : decode cX6_shortenBy 72 = .ok (.iaload, 1) := by decide +kernel
theorem dX6_shortenBy_73 : decode cX6_shortenBy 73 = .ok (.if_icmp .ge 14, 3) := by decide +kernel
theorem dX6_shortenBy_76 : decode cX6_shortenBy 76 = .ok (.aload_n 1, 1) := by decide +kernel
theorem dX6_shortenBy_77 : decode cX6_shortenBy 77 = .ok (.iload_n 3, 1) := by decide +kernel
theorem dX6_shortenBy_78 : decode cX6_shortenBy 78 = .ok (.aaload, 1) := by decide +kernel
theorem dX6_shortenBy_79 : decode cX6_shortenBy 79 = .ok (.iload 5, 2) := by decide +kernel
theorem dX6_shortenBy_81 : decode cX6_shortenBy 81 = .ok (.iload 4, 2) := by decide +kernel
theorem dX6_shortenBy_83 : decode cX6_shortenBy 83 = .ok (.iload 6, 2) := by decide +kernel
theorem dX6_shortenBy_85 : decode cX6_shortenBy 85 = .ok (.iadd, 1) := by decide +kernel
theorem dX6_shortenBy_86 : decode cX6_shortenBy 86 = .ok (.iastore, 1) := by decide +kernel
theorem dX6_shortenBy_87 : decode cX6_shortenBy 87 = .ok (.iinc 5 1, 3) := by decide +kernel
theorem dX6_shortenBy_90 : decode cX6_shortenBy 90 = .ok (.goto (-70), 3) := by decide +kernel
theorem dX6_shortenBy_93 : decode cX6_shortenBy 93 = .ok (.iinc 3 1, 3) := by decide +kernel
theorem dX6_shortenBy_96 : decode cX6_shortenBy 96 = .ok (.goto (-94), 3) := by decide +kernel
theorem dX6_shortenBy_99 : decode cX6_shortenBy 99 = .ok (.return_, 1) := by decide +kernel
theorem dX6_leadsOn_0 : decode cX6_leadsOn 0 = .ok (.aload_n 0, 1) := by decide +kernel
theorem dX6_leadsOn_1 : decode cX6_leadsOn 1 = .ok (.getfield 23, 3) := by decide +kernel
theorem dX6_leadsOn_4 : decode cX6_leadsOn 4 = .ok (.iload_n 1, 1) := by decide +kernel
theorem dX6_leadsOn_5 : decode cX6_leadsOn 5 = .ok (.aaload, 1) := by decide +kernel
theorem dX6_leadsOn_6 : decode cX6_leadsOn 6 = .ok (.iload_n 3, 1) := by decide +kernel
theorem dX6_leadsOn_7 : decode cX6_leadsOn 7 = .ok (.iaload, 1) := by decide +kernel
theorem dX6_leadsOn_8 : decode cX6_leadsOn 8 = .ok (.istore 4, 2) := by decide +kernel
theorem dX6_leadsOn_10 : decode cX6_leadsOn 10 = .ok (.aload_n 0, 1) := by decide +kernel
theorem dX6_leadsOn_11 : decode cX6_leadsOn 11 = .ok (.getfield 20, 3) := by decide +kernel
theorem dX6_leadsOn_14 : decode cX6_leadsOn 14 = .ok (.iload_n 1, 1) := by decide +kernel
theorem dX6_leadsOn_15 : decode cX6_leadsOn 15 = .ok (.aaload, 1) := by decide +kernel
theorem dX6_leadsOn_16 : decode cX6_leadsOn 16 = .ok (.iload_n 2, 1) := by decide +kernel
theorem dX6_leadsOn_17 : decode cX6_leadsOn 17 = .ok (.iaload, 1) := by decide +kernel
theorem dX6_leadsOn_18 : decode cX6_leadsOn 18 = .ok (.istore 5, 2) := by decide +kernel
theorem dX6_leadsOn_20 : decode cX6_leadsOn 20 = .ok (.iload 5, 2) := by decide +kernel
theorem dX6_leadsOn_22 : decode cX6_leadsOn 22 = .ok (.ifCond .le 30, 3) := by decide +kernel
theorem dX6_leadsOn_25 : decode cX6_leadsOn 25 = .ok (.iload 4, 2) := by decide +kernel
theorem dX6_leadsOn_27 : decode cX6_leadsOn 27 = .ok (.bipush (-4), 2) := by decide +kernel
theorem dX6_leadsOn_29 : decode cX6_leadsOn 29 = .ok (.if_icmp .eq 23, 3) := by decide +kernel
theorem dX6_leadsOn_32 : decode cX6_leadsOn 32 = .ok (.iload 4, 2) := by decide +kernel
theorem dX6_leadsOn_34 : decode cX6_leadsOn 34 = .ok (.iload 5, 2) := by decide +kernel
theorem dX6_leadsOn_36 : decode cX6_leadsOn 36 = .ok (.aload_n 0, 1) := by decide +kernel
theorem dX6_leadsOn_37 : decode cX6_leadsOn 37 = .ok (.getfield 23, 3) := by decide +kernel
theorem dX6_leadsOn_40 : decode cX6_leadsOn 40 = .ok (.iload_n 2, 1) := by decide +kernel
theorem dX6_leadsOn_41 : decode cX6_leadsOn 41 = .ok (.aaload, 1) := by decide +kernel
theorem dX6_leadsOn_42 : decode cX6_leadsOn 42 = .ok (.iload_n 3, 1) := by decide +kernel
theorem dX6_leadsOn_43 : decode cX6_leadsOn 43 = .ok (.iaload, 1) := by decide +kernel
theorem dX6_leadsOn_44 : decode cX6_leadsOn 44 = .ok (.iadd, 1) := by decide +kernel
theorem dX6_leadsOn_45 : decode cX6_leadsOn 45 = .ok (.if_icmp .ne 7, 3) := by decide +kernel
theorem dX6_leadsOn_48 : decode cX6_leadsOn 48 = .ok (.iconst 1, 1) := by decide +kernel
theorem dX6_leadsOn_49 : decode cX6_leadsOn 49 = .ok (.goto 4, 3) := by decide +kernel
theorem dX6_leadsOn_52 : decode cX6_leadsOn 52 = .ok (.iconst 0, 1) := by decide +kernel
theorem dX6_leadsOn_53 : decode cX6_leadsOn 53 = .ok (.ireturn, 1) := by decide +kernel
theorem dX6_towards_0 : decode cX6_towards 0 = .ok (.iconst 0, 1) := by decide +kernel
theorem dX6_towards_1 : decode cX6_towards 1 = .ok (.istore_n 3, 1) := by decide +kernel
theorem dX6_towards_2 : decode cX6_towards 2 = .ok (.iload_n 3, 1) := by decide +kernel
theorem dX6_towards_3 : decode cX6_towards 3 = .ok (.aload_n 0, 1) := by decide +kernel
theorem dX6_towards_4 : decode cX6_towards 4 = .ok (.getfield 26, 3) := by decide +kernel
theorem dX6_towards_7 : decode cX6_towards 7 = .ok (.if_icmp .ge 21, 3) := by decide +kernel
theorem dX6_towards_10 : decode cX6_towards 10 = .ok (.aload_n 0, 1) := by decide +kernel
theorem dX6_towards_11 : decode cX6_towards 11 = .ok (.iload_n 1, 1) := by decide +kernel
theorem dX6_towards_12 : decode cX6_towards 12 = .ok (.iload_n 3, 1) := by decide +kernel
theorem dX6_towards_13 : decode cX6_towards 13 = .ok (.iload_n 2, 1) := by decide +kernel
theorem dX6_towards_14 : decode cX6_towards 14 = .ok (.invokevirtual 43, 3) := by decide +kernel
theorem dX6_towards_17 : decode cX6_towards 17 = .ok (.ifCond .eq 5, 3) := by decide +kernel
theorem dX6_towards_20 : decode cX6_towards 20 = .ok (.iload_n 3, 1) := by decide +kernel
theorem dX6_towards_21 : decode cX6_towards 21 = .ok (.ireturn, 1) := by decide +kernel
theorem dX6_towards_22 : decode cX6_towards 22 = .ok (.iinc 3 1, 3) := by decide +kernel
theorem dX6_towards_25 : decode cX6_towards 25 = .ok (.goto (-23), 3) := by decide +kernel
theorem dX6_towards_28 : decode cX6_towards 28 = .ok (.iconst (-1), 1) := by decide +kernel
theorem dX6_towards_29 : decode cX6_towards 29 = .ok (.ireturn, 1) := by decide +kernel
theorem dX6_firstBut_0 : decode cX6_firstBut 0 = .ok (.iconst 0, 1) := by decide +kernel
theorem dX6_firstBut_1 : decode cX6_firstBut 1 = .ok (.istore_n 3, 1) := by decide +kernel
theorem dX6_firstBut_2 : decode cX6_firstBut 2 = .ok (.iload_n 3, 1) := by decide +kernel
theorem dX6_firstBut_3 : decode cX6_firstBut 3 = .ok (.aload_n 0, 1) := by decide +kernel
theorem dX6_firstBut_4 : decode cX6_firstBut 4 = .ok (.getfield 26, 3) := by decide +kernel
theorem dX6_firstBut_7 : decode cX6_firstBut 7 = .ok (.if_icmp .ge 27, 3) := by decide +kernel
theorem dX6_firstBut_10 : decode cX6_firstBut 10 = .ok (.iload_n 3, 1) := by decide +kernel
theorem dX6_firstBut_11 : decode cX6_firstBut 11 = .ok (.iload_n 2, 1) := by decide +kernel
theorem dX6_firstBut_12 : decode cX6_firstBut 12 = .ok (.if_icmp .eq 16, 3) := by decide +kernel
theorem dX6_firstBut_15 : decode cX6_firstBut 15 = .ok (.aload_n 0, 1) := by decide +kernel
theorem dX6_firstBut_16 : decode cX6_firstBut 16 = .ok (.getfield 20, 3) := by decide +kernel
theorem dX6_firstBut_19 : decode cX6_firstBut 19 = .ok (.iload_n 1, 1) := by decide +kernel
theorem dX6_firstBut_20 : decode cX6_firstBut 20 = .ok (.aaload, 1) := by decide +kernel
theorem dX6_firstBut_21 : decode cX6_firstBut 21 = .ok (.iload_n 3, 1) := by decide +kernel
theorem dX6_firstBut_22 : decode cX6_firstBut 22 = .ok (.iaload, 1) := by decide +kernel
theorem dX6_firstBut_23 : decode cX6_firstBut 23 = .ok (.ifCond .le 5, 3) := by decide +kernel
theorem dX6_firstBut_26 : decode cX6_firstBut 26 = .ok (.iload_n 3, 1) := by decide +kernel
theorem dX6_firstBut_27 : decode cX6_firstBut 27 = .ok (.ireturn, 1) := by decide +kernel
theorem dX6_firstBut_28 : decode cX6_firstBut 28 = .ok (.iinc 3 1, 3) := by decide +kernel
theorem dX6_firstBut_31 : decode cX6_firstBut 31 = .ok (.goto (-29), 3) := by decide +kernel
theorem dX6_firstBut_34 : decode cX6_firstBut 34 = .ok (.iload_n 2, 1) := by decide +kernel
theorem dX6_firstBut_35 : decode cX6_firstBut 35 = .ok (.ireturn, 1) := by decide +kernel
theorem dX6_lastBut_0 : decode cX6_lastBut 0 = .ok (.aload_n 0, 1) := by decide +kernel
theorem dX6_lastBut_1 : decode cX6_lastBut 1 = .ok (.getfield 26, 3) := by decide +kernel
theorem dX6_lastBut_4 : decode cX6_lastBut 4 = .ok (.iconst 1, 1) := by decide +kernel
theorem dX6_lastBut_5 : decode cX6_lastBut 5 = .ok (.isub, 1) := by decide +kernel
theorem dX6_lastBut_6 : decode cX6_lastBut 6 = .ok (.istore_n 3, 1) := by decide +kernel
theorem dX6_lastBut_7 : decode cX6_lastBut 7 = .ok (.iload_n 3, 1) := by decide +kernel
theorem dX6_lastBut_8 : decode cX6_lastBut 8 = .ok (.ifCond .lt 27, 3) := by decide +kernel
theorem dX6_lastBut_11 : decode cX6_lastBut 11 = .ok (.iload_n 3, 1) := by decide +kernel
theorem dX6_lastBut_12 : decode cX6_lastBut 12 = .ok (.iload_n 2, 1) := by decide +kernel
theorem dX6_lastBut_13 : decode cX6_lastBut 13 = .ok (.if_icmp .eq 16, 3) := by decide +kernel
theorem dX6_lastBut_16 : decode cX6_lastBut 16 = .ok (.aload_n 0, 1) := by decide +kernel
theorem dX6_lastBut_17 : decode cX6_lastBut 17 = .ok (.getfield 20, 3) := by decide +kernel
theorem dX6_lastBut_20 : decode cX6_lastBut 20 = .ok (.iload_n 1, 1) := by decide +kernel
theorem dX6_lastBut_21 : decode cX6_lastBut 21 = .ok (.aaload, 1) := by decide +kernel
theorem dX6_lastBut_22 : decode cX6_lastBut 22 = .ok (.iload_n 3, 1) := by decide +kernel
theorem dX6_lastBut_23 : decode cX6_lastBut 23 = .ok (.iaload, 1) := by decide +kernel
theorem dX6_lastBut_24 : decode cX6_lastBut 24 = .ok (.ifCond .le 5, 3) := by decide +kernel
theorem dX6_lastBut_27 : decode cX6_lastBut 27 = .ok (.iload_n 3, 1) := by decide +kernel
theorem dX6_lastBut_28 : decode cX6_lastBut 28 = .ok (.ireturn, 1) := by decide +kernel
theorem dX6_lastBut_29 : decode cX6_lastBut 29 = .ok (.iinc 3 (-1), 3) := by decide +kernel
theorem dX6_lastBut_32 : decode cX6_lastBut 32 = .ok (.goto (-25), 3) := by decide +kernel
theorem dX6_lastBut_35 : decode cX6_lastBut 35 = .ok (.iload_n 2, 1) := by decide +kernel
theorem dX6_lastBut_36 : decode cX6_lastBut 36 = .ok (.ireturn, 1) := by decide +kernel
theorem dX7_init_0 : decode cX7_init 0 = .ok (.aload_n 0, 1) := by decide +kernel
theorem dX7_init_1 : decode cX7_init 1 = .ok (.invokespecial 3, 3) := by decide +kernel
theorem dX7_init_4 : decode cX7_init 4 = .ok (.aload_n 0, 1) := by decide +kernel
theorem dX7_init_5 : decode cX7_init 5 = .ok (.sipush 200, 3) := by decide +kernel
theorem dX7_init_8 : decode cX7_init 8 = .ok (.newarray .char, 2) := by decide +kernel
theorem dX7_init_10 : decode cX7_init 10 = .ok (.putfield 9, 3) := by decide +kernel
theorem dX7_init_13 : decode cX7_init 13 = .ok (.return_, 1) := by decide +kernel
theorem dX7_append_0 : decode cX7_append 0 = .ok (.aload_n 0, 1) := by decide +kernel
theorem dX7_append_1 : decode cX7_append 1 = .ok (.getfield 15, 3) := by decide +kernel
theorem dX7_append_4 : decode cX7_append 4 = .ok (.sipush 200, 3) := by decide +kernel
theorem dX7_append_7 : decode cX7_append 7 = .ok (.if_icmp .ge 24, 3) := by decide +kernel
theorem dX7_append_10 : decode cX7_append 10 = .ok (.aload_n 0, 1) := by decide +kernel
theorem dX7_append_11 : decode cX7_append 11 = .ok (.getfield 9, 3) := by decide +kernel
theorem dX7_append_14 : decode cX7_append 14 = .ok (.aload_n 0, 1) := by decide +kernel
theorem dX7_append_15 : decode cX7_append 15 = .ok (.getfield 15, 3) := by decide +kernel
theorem dX7_append_18 : decode cX7_append 18 = .ok (.iload_n 1, 1) := by decide +kernel
theorem dX7_append_19 : decode cX7_append 19 = .ok (.i2c, 1) := by decide +kernel
theorem dX7_append_20 : decode cX7_append 20 = .ok (.castore, 1) := by decide +kernel
theorem dX7_append_21 : decode cX7_append 21 = .ok (.aload_n 0, 1) := by decide +kernel
theorem dX7_append_22 : decode cX7_append 22 = .ok (.dup, 1) := by decide +kernel
theorem dX7_append_23 : decode cX7_append 23 = .ok (.getfield 15, 3) := by decide +kernel
theorem dX7_append_26 : decode cX7_append 26 = .ok (.iconst 1, 1) := by decide +kernel
theorem dX7_append_27 : decode cX7_append 27 = .ok (.iadd, 1) := by decide +kernel
theorem dX7_append_28 : decode cX7_append 28 = .ok (.putfield 15, 3) := by decide +kernel
theorem dX7_append_31 : decode cX7_append 31 = .ok (.return_, 1) := by decide +kernel
theorem dX7_letterAt_0 : decode cX7_letterAt 0 = .ok (.iload_n 1, 1) := by decide +kernel
theorem dX7_letterAt_1 : decode cX7_letterAt 1 = .ok (.ifCond .lt 20, 3) := by decide +kernel
theorem dX7_letterAt_4 : decode cX7_letterAt 4 = .ok (.iload_n 1, 1) := by decide +kernel
theorem dX7_letterAt_5 : decode cX7_letterAt 5 = .ok (.aload_n 0, 1) := by decide +kernel
theorem dX7_letterAt_6 : decode cX7_letterAt 6 = .ok (.getfield 15, 3) := by decide +kernel
theorem dX7_letterAt_9 : decode cX7_letterAt 9 = .ok (.if_icmp .ge 12, 3) := by decide +kernel
theorem dX7_letterAt_12 : decode cX7_letterAt 12 = .ok (.aload_n 0, 1) := by decide +kernel
theorem dX7_letterAt_13 : decode cX7_letterAt 13 = .ok (.getfield 9, 3) := by decide +kernel
theorem dX7_letterAt_16 : decode cX7_letterAt 16 = .ok (.iload_n 1, 1) := by decide +kernel
theorem dX7_letterAt_17 : decode cX7_letterAt 17 = .ok (.caload, 1) := by decide +kernel
theorem dX7_letterAt_18 : decode cX7_letterAt 18 = .ok (.goto 5, 3) := by decide +kernel
theorem dX7_letterAt_21 : decode cX7_letterAt 21 = .ok (.bipush (-4), 2) := by decide +kernel
theorem dX7_letterAt_23 : decode cX7_letterAt 23 = .ok (.ireturn, 1) := by decide +kernel
theorem dX8_init_0 : decode cX8_init 0 = .ok (.aload_n 0, 1) := by decide +kernel
theorem dX8_init_1 : decode cX8_init 1 = .ok (.invokespecial 3, 3) := by decide +kernel
theorem dX8_init_4 : decode cX8_init 4 = .ok (.aload_n 0, 1) := by decide +kernel
theorem dX8_init_5 : decode cX8_init 5 = .ok (.new 9, 3) := by decide +kernel
theorem dX8_init_8 : decode cX8_init 8 = .ok (.dup, 1) := by decide +kernel
theorem dX8_init_9 : decode cX8_init 9 = .ok (.invokespecial 11, 3) := by decide +kernel
theorem dX8_init_12 : decode cX8_init 12 = .ok (.putfield 12, 3) := by decide +kernel
theorem dX8_init_15 : decode cX8_init 15 = .ok (.aload_n 0, 1) := by decide +kernel
theorem dX8_init_16 : decode cX8_init 16 = .ok (.new 18, 3) := by decide +kernel
theorem dX8_init_19 : decode cX8_init 19 = .ok (.dup, 1) := by decide +kernel
theorem dX8_init_20 : decode cX8_init 20 = .ok (.invokespecial 20, 3) := by decide +kernel
theorem dX8_init_23 : decode cX8_init 23 = .ok (.putfield 21, 3) := by decide +kernel
theorem dX8_init_26 : decode cX8_init 26 = .ok (.aload_n 0, 1) := by decide +kernel
theorem dX8_init_27 : decode cX8_init 27 = .ok (.new 25, 3) := by decide +kernel
theorem dX8_init_30 : decode cX8_init 30 = .ok (.dup, 1) := by decide +kernel
theorem dX8_init_31 : decode cX8_init 31 = .ok (.invokespecial 27, 3) := by decide +kernel
theorem dX8_init_34 : decode cX8_init 34 = .ok (.putfield 28, 3) := by decide +kernel
theorem dX8_init_37 : decode cX8_init 37 = .ok (.return_, 1) := by decide +kernel
theorem dX8_clear_0 : decode cX8_clear 0 = .ok (.aload_n 0, 1) := by decide +kernel
theorem dX8_clear_1 : decode cX8_clear 1 = .ok (.getfield 12, 3) := by decide +kernel
theorem dX8_clear_4 : decode cX8_clear 4 = .ok (.invokevirtual 32, 3) := by decide +kernel
theorem dX8_clear_7 : decode cX8_clear 7 = .ok (.aload_n 0, 1) := by decide +kernel
theorem dX8_clear_8 : decode cX8_clear 8 = .ok (.getfield 21, 3) := by decide +kernel
theorem dX8_clear_11 : decode cX8_clear 11 = .ok (.iconst 0, 1) := by decide +kernel
theorem dX8_clear_12 : decode cX8_clear 12 = .ok (.putfield 35, 3) := by decide +kernel
theorem dX8_clear_15 : decode cX8_clear 15 = .ok (.aload_n 0, 1) := by decide +kernel
theorem dX8_clear_16 : decode cX8_clear 16 = .ok (.getfield 28, 3) := by decide +kernel
theorem dX8_clear_19 : decode cX8_clear 19 = .ok (.iconst 0, 1) := by decide +kernel
theorem dX8_clear_20 : decode cX8_clear 20 = .ok (.putfield 39, 3) := by decide +kernel
theorem dX8_clear_23 : decode cX8_clear 23 = .ok (.aload_n 0, 1) := by decide +kernel
theorem dX8_clear_24 : decode cX8_clear 24 = .ok (.iconst 2, 1) := by decide +kernel
theorem dX8_clear_25 : decode cX8_clear 25 = .ok (.putfield 40, 3) := by decide +kernel
theorem dX8_clear_28 : decode cX8_clear 28 = .ok (.aload_n 0, 1) := by decide +kernel
theorem dX8_clear_29 : decode cX8_clear 29 = .ok (.iconst 3, 1) := by decide +kernel
theorem dX8_clear_30 : decode cX8_clear 30 = .ok (.putfield 43, 3) := by decide +kernel
theorem dX8_clear_33 : decode cX8_clear 33 = .ok (.aload_n 0, 1) := by decide +kernel
theorem dX8_clear_34 : decode cX8_clear 34 = .ok (.iconst 1, 1) := by decide +kernel
theorem dX8_clear_35 : decode cX8_clear 35 = .ok (.putfield 46, 3) := by decide +kernel
theorem dX8_clear_38 : decode cX8_clear 38 = .ok (.return_, 1) := by decide +kernel
theorem dX8_minutesToAims_0 : decode cX8_minutesToAims 0 = .ok (.iconst 0, 1) := by decide +kernel
theorem dX8_minutesToAims_1 : decode cX8_minutesToAims 1 = .ok (.istore_n 2, 1) := by decide +kernel
theorem dX8_minutesToAims_2 : decode cX8_minutesToAims 2 = .ok (.iconst 0, 1) := by decide +kernel
theorem dX8_minutesToAims_3 : decode cX8_minutesToAims 3 = .ok (.istore_n 3, 1) := by decide +kernel
theorem dX8_minutesToAims_4 : decode cX8_minutesToAims 4 = .ok (.iload_n 3, 1) := by decide +kernel
theorem dX8_minutesToAims_5 : decode cX8_minutesToAims 5 = .ok (.aload_n 0, 1) := by decide +kernel
theorem dX8_minutesToAims_6 : decode cX8_minutesToAims 6 = .ok (.getfield 28, 3) := by decide +kernel
theorem dX8_minutesToAims_9 : decode cX8_minutesToAims 9 = .ok (.getfield 39, 3) := by decide +kernel
theorem dX8_minutesToAims_12 : decode cX8_minutesToAims 12 = .ok (.if_icmp .ge 50, 3) := by decide +kernel
theorem dX8_minutesToAims_15 : decode cX8_minutesToAims 15 = .ok (.aload_n 1, 1) := by decide +kernel
theorem dX8_minutesToAims_16 : decode cX8_minutesToAims 16 = .ok (.aload_n 0, 1) := by decide +kernel
theorem dX8_minutesToAims_17 : decode cX8_minutesToAims 17 = .ok (.getfield 28, 3) := by decide +kernel
theorem dX8_minutesToAims_20 : decode cX8_minutesToAims 20 = .ok (.getfield 49, 3) := by decide +kernel
theorem dX8_minutesToAims_23 : decode cX8_minutesToAims 23 = .ok (.iload_n 3, 1) := by decide +kernel
theorem dX8_minutesToAims_24 : decode cX8_minutesToAims 24 = .ok (.iaload, 1) := by decide +kernel
theorem dX8_minutesToAims_25 : decode cX8_minutesToAims 25 = .ok (.aaload, 1) := by decide +kernel
theorem dX8_minutesToAims_26 : decode cX8_minutesToAims 26 = .ok (.aload_n 0, 1) := by decide +kernel
theorem dX8_minutesToAims_27 : decode cX8_minutesToAims 27 = .ok (.getfield 28, 3) := by decide +kernel
theorem dX8_minutesToAims_30 : decode cX8_minutesToAims 30 = .ok (.getfield 53, 3) := by decide +kernel
theorem dX8_minutesToAims_33 : decode cX8_minutesToAims 33 = .ok (.iload_n 3, 1) := by decide +kernel
theorem dX8_minutesToAims_34 : decode cX8_minutesToAims 34 = .ok (.iaload, 1) := by decide +kernel
theorem dX8_minutesToAims_35 : decode cX8_minutesToAims 35 = .ok (.iaload, 1) := by decide +kernel
theorem dX8_minutesToAims_36 : decode cX8_minutesToAims 36 = .ok (.istore 4, 2) := by decide +kernel
theorem dX8_minutesToAims_38 : decode cX8_minutesToAims 38 = .ok (.iload_n 2, 1) := by decide +kernel
theorem dX8_minutesToAims_39 : decode cX8_minutesToAims 39 = .ok (.iload 4, 2) := by decide +kernel
theorem dX8_minutesToAims_41 : decode cX8_minutesToAims 41 = .ok (.bipush (-4), 2) := by decide +kernel
theorem dX8_minutesToAims_43 : decode cX8_minutesToAims 43 = .ok (.if_icmp .ne 9, 3) := by decide +kernel
theorem dX8_minutesToAims_46 : decode cX8_minutesToAims 46 = .ok (.sipush 200, 3) := by decide +kernel
theorem dX8_minutesToAims_49 : decode cX8_minutesToAims 49 = .ok (.goto 5, 3) := by decide +kernel
theorem dX8_minutesToAims_52 : decode cX8_minutesToAims 52 = .ok (.iload 4, 2) := by decide +kernel
theorem dX8_minutesToAims_54 : decode cX8_minutesToAims 54 = .ok (.iadd, 1) := by decide +kernel
theorem dX8_minutesToAims_55 : decode cX8_minutesToAims 55 = .ok (.istore_n 2, 1) := by decide +kernel
theorem dX8_minutesToAims_56 : decode cX8_minutesToAims 56 = .ok (.iinc 3 1, 3) := by decide +kernel
theorem dX8_minutesToAims_59 : decode cX8_minutesToAims 59 = .ok (.goto (-55), 3) := by decide +kernel
theorem dX8_minutesToAims_62 : decode cX8_minutesToAims 62 = .ok (.iload_n 2, 1) := by decide +kernel
theorem dX8_minutesToAims_63 : decode cX8_minutesToAims 63 = .ok (.ireturn, 1) := by decide +kernel
theorem dX9_init_0 : decode cX9_init 0 = .ok (.aload_n 0, 1) := by decide +kernel
theorem dX9_init_1 : decode cX9_init 1 = .ok (.invokespecial 3, 3) := by decide +kernel
theorem dX9_init_4 : decode cX9_init 4 = .ok (.aload_n 0, 1) := by decide +kernel
theorem dX9_init_5 : decode cX9_init 5 = .ok (.bipush 31, 2) := by decide +kernel
theorem dX9_init_7 : decode cX9_init 7 = .ok (.newarray .int, 2) := by decide +kernel
theorem dX9_init_9 : decode cX9_init 9 = .ok (.putfield 9, 3) := by decide +kernel
theorem dX9_init_12 : decode cX9_init 12 = .ok (.aload_n 0, 1) := by decide +kernel
theorem dX9_init_13 : decode cX9_init 13 = .ok (.bipush 30, 2) := by decide +kernel
theorem dX9_init_15 : decode cX9_init 15 = .ok (.newarray .boolean, 2) := by decide +kernel
theorem dX9_init_17 : decode cX9_init 17 = .ok (.putfield 15, 3) := by decide +kernel
theorem dX9_init_20 : decode cX9_init 20 = .ok (.return_, 1) := by decide +kernel
theorem dX9_make_0 : decode cX9_make 0 = .ok (.aload_n 0, 1) := by decide +kernel
theorem dX9_make_1 : decode cX9_make 1 = .ok (.iconst 0, 1) := by decide +kernel
theorem dX9_make_2 : decode cX9_make 2 = .ok (.putfield 19, 3) := by decide +kernel
theorem dX9_make_5 : decode cX9_make 5 = .ok (.aload_n 0, 1) := by decide +kernel
theorem dX9_make_6 : decode cX9_make 6 = .ok (.iconst 0, 1) := by decide +kernel
theorem dX9_make_7 : decode cX9_make 7 = .ok (.putfield 23, 3) := by decide +kernel
theorem dX9_make_10 : decode cX9_make 10 = .ok (.aload_n 0, 1) := by decide +kernel
theorem dX9_make_11 : decode cX9_make 11 = .ok (.iconst 0, 1) := by decide +kernel
theorem dX9_make_12 : decode cX9_make 12 = .ok (.putfield 26, 3) := by decide +kernel
theorem dX9_make_15 : decode cX9_make 15 = .ok (.aload_n 0, 1) := by decide +kernel
theorem dX9_make_16 : decode cX9_make 16 = .ok (.iconst 0, 1) := by decide +kernel
theorem dX9_make_17 : decode cX9_make 17 = .ok (.putfield 29, 3) := by decide +kernel
theorem dX9_make_20 : decode cX9_make 20 = .ok (.aload_n 0, 1) := by decide +kernel
theorem dX9_make_21 : decode cX9_make 21 = .ok (.getfield 9, 3) := by decide +kernel
theorem dX9_make_24 : decode cX9_make 24 = .ok (.iconst 0, 1) := by decide +kernel
theorem dX9_make_25 : decode cX9_make 25 = .ok (.iload 4, 2) := by decide +kernel
theorem dX9_make_27 : decode cX9_make 27 = .ok (.iastore, 1) := by decide +kernel
theorem dX9_make_28 : decode cX9_make 28 = .ok (.iconst (-1), 1) := by decide +kernel
theorem dX9_make_29 : decode cX9_make 29 = .ok (.istore 7, 2) := by decide +kernel
theorem dX9_make_31 : decode cX9_make 31 = .ok (.iload 4, 2) := by decide +kernel
theorem dX9_make_33 : decode cX9_make 33 = .ok (.istore 8, 2) := by decide +kernel
theorem dX9_make_35 : decode cX9_make 35 = .ok (.iconst 0, 1) := by decide +kernel
theorem dX9_make_36 : decode cX9_make 36 = .ok (.istore 9, 2) := by decide +kernel
theorem dX9_make_38 : decode cX9_make 38 = .ok (.iload 9, 2) := by decide +kernel
theorem dX9_make_40 : decode cX9_make 40 = .ok (.bipush 30, 2) := by decide +kernel
theorem dX9_make_42 : decode cX9_make 42 = .ok (.if_icmp .ge 196, 3) := by decide +kernel
theorem dX9_make_45 : decode cX9_make 45 = .ok (.iload 8, 2) := by decide +kernel
theorem dX9_make_47 : decode cX9_make 47 = .ok (.iload 5, 2) := by decide +kernel
theorem dX9_make_49 : decode cX9_make 49 = .ok (.if_icmp .eq 189, 3) := by decide +kernel
theorem dX9_make_52 : decode cX9_make 52 = .ok (.aload_n 1, 1) := by decide +kernel
theorem dX9_make_53 : decode cX9_make 53 = .ok (.getfield 32, 3) := by decide +kernel
theorem dX9_make_56 : decode cX9_make 56 = .ok (.aload_n 2, 1) := by decide +kernel
theorem dX9_make_57 : decode cX9_make 57 = .ok (.iload_n 3, 1) := by decide +kernel
theorem dX9_make_58 : decode cX9_make 58 = .ok (.iload 8, 2) := by decide +kernel
theorem dX9_make_60 : decode cX9_make 60 = .ok (.iload 7, 2) := by decide +kernel
theorem dX9_make_62 : decode cX9_make 62 = .ok (.iload 5, 2) := by decide +kernel
theorem dX9_make_64 : decode cX9_make 64 = .ok (.invokestatic 38, 3) := by decide +kernel
theorem dX9_make_67 : decode cX9_make 67 = .ok (.istore 10, 2) := by decide +kernel
theorem dX9_make_69 : decode cX9_make 69 = .ok (.iload 10, 2) := by decide +kernel
theorem dX9_make_71 : decode cX9_make 71 = .ok (.iconst (-1), 1) := by decide +kernel
theorem dX9_make_72 : decode cX9_make 72 = .ok (.if_icmp .ne 6, 3) := by decide +kernel
theorem dX9_make_75 : decode cX9_make 75 = .ok (.goto 163, 3) := by decide +kernel
theorem dX9_make_78 : decode cX9_make 78 = .ok (.iload_n 3, 1) := by decide +kernel
theorem dX9_make_79 : decode cX9_make 79 = .ok (.iconst 2, 1) := by decide +kernel
theorem dX9_make_80 : decode cX9_make 80 = .ok (.if_icmp .ne 26, 3) := by decide +kernel
theorem dX9_make_83 : decode cX9_make 83 = .ok (.aload_n 0, 1) := by decide +kernel
theorem dX9_make_84 : decode cX9_make 84 = .ok (.dup, 1) := by decide +kernel
theorem dX9_make_85 : decode cX9_make 85 = .ok (.getfield 23, 3) := by decide +kernel
theorem dX9_make_88 : decode cX9_make 88 = .ok (.iconst 1, 1) := by decide +kernel
theorem dX9_make_89 : decode cX9_make 89 = .ok (.iadd, 1) := by decide +kernel
theorem dX9_make_90 : decode cX9_make 90 = .ok (.putfield 23, 3) := by decide +kernel
theorem dX9_make_93 : decode cX9_make 93 = .ok (.aload_n 0, 1) := by decide +kernel
theorem dX9_make_94 : decode cX9_make 94 = .ok (.dup, 1) := by decide +kernel
theorem dX9_make_95 : decode cX9_make 95 = .ok (.getfield 29, 3) := by decide +kernel
theorem dX9_make_98 : decode cX9_make 98 = .ok (.aload_n 1, 1) := by decide +kernel
theorem dX9_make_99 : decode cX9_make 99 = .ok (.getfield 42, 3) := by decide +kernel
theorem dX9_make_102 : decode cX9_make 102 = .ok (.iadd, 1) := by decide +kernel
theorem dX9_make_103 : decode cX9_make 103 = .ok (.putfield 29, 3) := by decide +kernel
theorem dX9_make_106 : decode cX9_make 106 = .ok (.aload_n 0, 1) := by decide +kernel
theorem dX9_make_107 : decode cX9_make 107 = .ok (.dup, 1) := by decide +kernel
theorem dX9_make_108 : decode cX9_make 108 = .ok (.getfield 23, 3) := by decide +kernel
theorem dX9_make_111 : decode cX9_make 111 = .ok (.aload_n 1, 1) := by decide +kernel
theorem dX9_make_112 : decode cX9_make 112 = .ok (.getfield 32, 3) := by decide +kernel
theorem dX9_make_115 : decode cX9_make 115 = .ok (.getfield 45, 3) := by decide +kernel
theorem dX9_make_118 : decode cX9_make 118 = .ok (.iload 8, 2) := by decide +kernel
theorem dX9_make_120 : decode cX9_make 120 = .ok (.aaload, 1) := by decide +kernel
theorem dX9_make_121 : decode cX9_make 121 = .ok (.iload 10, 2) := by decide +kernel
theorem dX9_make_123 : decode cX9_make 123 = .ok (.iaload, 1) := by decide +kernel
theorem dX9_make_124 : decode cX9_make 124 = .ok (.iadd, 1) := by decide +kernel
theorem dX9_make_125 : decode cX9_make 125 = .ok (.putfield 23, 3) := by decide +kernel
theorem dX9_make_128 : decode cX9_make 128 = .ok (.aload_n 0, 1) := by decide +kernel
theorem dX9_make_129 : decode cX9_make 129 = .ok (.getfield 15, 3) := by decide +kernel
theorem dX9_make_132 : decode cX9_make 132 = .ok (.iload 9, 2) := by decide +kernel
theorem dX9_make_134 : decode cX9_make 134 = .ok (.aload_n 1, 1) := by decide +kernel
theorem dX9_make_135 : decode cX9_make 135 = .ok (.getfield 32, 3) := by decide +kernel
theorem dX9_make_138 : decode cX9_make 138 = .ok (.iload 8, 2) := by decide +kernel
theorem dX9_make_140 : decode cX9_make 140 = .ok (.iload 10, 2) := by decide +kernel
theorem dX9_make_142 : decode cX9_make 142 = .ok (.iload 6, 2) := by decide +kernel
theorem dX9_make_144 : decode cX9_make 144 = .ok (.invokevirtual 51, 3) := by decide +kernel
theorem dX9_make_147 : decode cX9_make 147 = .ok (.ifCond .ne 7, 3) := by decide +kernel
theorem dX9_make_150 : decode cX9_make 150 = .ok (.iconst 1, 1) := by decide +kernel
theorem dX9_make_151 : decode cX9_make 151 = .ok (.goto 4, 3) := by decide +kernel
theorem dX9_make_154 : decode cX9_make 154 = .ok (.iconst 0, 1) := by decide +kernel
theorem dX9_make_155 : decode cX9_make 155 = .ok (.bastore, 1) := by decide +kernel
theorem dX9_make_156 : decode cX9_make 156 = .ok (.aload_n 0, 1) := by decide +kernel
theorem dX9_make_157 : decode cX9_make 157 = .ok (.getfield 15, 3) := by decide +kernel
theorem dX9_make_160 : decode cX9_make 160 = .ok (.iload 9, 2) := by decide +kernel
theorem dX9_make_162 : decode cX9_make 162 = .ok (.baload, 1) := by decide +kernel
theorem dX9_make_163 : decode cX9_make 163 = .ok (.ifCond .eq 42, 3) := by decide +kernel
theorem dX9_make_166 : decode cX9_make 166 = .ok (.aload_n 0, 1) := by decide +kernel
theorem dX9_make_167 : decode cX9_make 167 = .ok (.dup, 1) := by decide +kernel
theorem dX9_make_168 : decode cX9_make 168 = .ok (.getfield 26, 3) := by decide +kernel
theorem dX9_make_171 : decode cX9_make 171 = .ok (.iconst 1, 1) := by decide +kernel
theorem dX9_make_172 : decode cX9_make 172 = .ok (.iadd, 1) := by decide +kernel
theorem dX9_make_173 : decode cX9_make 173 = .ok (.putfield 26, 3) := by decide +kernel
theorem dX9_make_176 : decode cX9_make 176 = .ok (.aload_n 0, 1) := by decide +kernel
theorem dX9_make_177 : decode cX9_make 177 = .ok (.dup, 1) := by decide +kernel
theorem dX9_make_178 : decode cX9_make 178 = .ok (.getfield 29, 3) := by decide +kernel
theorem dX9_make_181 : decode cX9_make 181 = .ok (.aload_n 1, 1) := by decide +kernel
theorem dX9_make_182 : decode cX9_make 182 = .ok (.getfield 55, 3) := by decide +kernel
theorem dX9_make_185 : decode cX9_make 185 = .ok (.iload 10, 2) := by decide +kernel
theorem dX9_make_187 : decode cX9_make 187 = .ok (.iload 7, 2) := by decide +kernel
theorem dX9_make_189 : decode cX9_make 189 = .ok (.if_icmp .ne 10, 3) := by decide +kernel
theorem dX9_make_192 : decode cX9_make 192 = .ok (.aload_n 1, 1) := by decide +kernel
theorem dX9_make_193 : decode cX9_make 193 = .ok (.getfield 58, 3) := by decide +kernel
theorem dX9_make_196 : decode cX9_make 196 = .ok (.goto 4, 3) := by decide +kernel
theorem dX9_make_199 : decode cX9_make 199 = .ok (.iconst 0, 1) := by decide +kernel
theorem dX9_make_200 : decode cX9_make 200 = .ok (.iadd, 1) := by decide +kernel
theorem dX9_make_201 : decode cX9_make 201 = .ok (.iadd, 1) := by decide +kernel
theorem dX9_make_202 : decode cX9_make 202 = .ok (.putfield 29, 3) := by decide +kernel
theorem dX9_make_205 : decode cX9_make 205 = .ok (.iload 8, 2) := by decide +kernel
theorem dX9_make_207 : decode cX9_make 207 = .ok (.istore 7, 2) := by decide +kernel
theorem dX9_make_209 : decode cX9_make 209 = .ok (.iload 10, 2) := by decide +kernel
theorem dX9_make_211 : decode cX9_make 211 = .ok (.istore 8, 2) := by decide +kernel
theorem dX9_make_213 : decode cX9_make 213 = .ok (.aload_n 0, 1) := by decide +kernel
theorem dX9_make_214 : decode cX9_make 214 = .ok (.iload 9, 2) := by decide +kernel
theorem dX9_make_216 : decode cX9_make 216 = .ok (.iconst 1, 1) := by decide +kernel
theorem dX9_make_217 : decode cX9_make 217 = .ok (.iadd, 1) := by decide +kernel
theorem dX9_make_218 : decode cX9_make 218 = .ok (.putfield 19, 3) := by decide +kernel
theorem dX9_make_221 : decode cX9_make 221 = .ok (.aload_n 0, 1) := by decide +kernel
theorem dX9_make_222 : decode cX9_make 222 = .ok (.getfield 9, 3) := by decide +kernel
theorem dX9_make_225 : decode cX9_make 225 = .ok (.aload_n 0, 1) := by decide +kernel
theorem dX9_make_226 : decode cX9_make 226 = .ok (.getfield 19, 3) := by decide +kernel
theorem dX9_make_229 : decode cX9_make 229 = .ok (.iload 8, 2) := by decide +kernel
theorem dX9_make_231 : decode cX9_make 231 = .ok (.iastore, 1) := by decide +kernel
theorem dX9_make_232 : decode cX9_make 232 = .ok (.iinc 9 1, 3) := by decide +kernel
theorem dX9_make_235 : decode cX9_make 235 = .ok (.goto (-197), 3) := by decide +kernel
theorem dX9_make_238 : decode cX9_make 238 = .ok (.aload_n 0, 1) := by decide +kernel
theorem dX9_make_239 : decode cX9_make 239 = .ok (.iload 8, 2) := by decide +kernel
theorem dX9_make_241 : decode cX9_make 241 = .ok (.iload 5, 2) := by decide +kernel
theorem dX9_make_243 : decode cX9_make 243 = .ok (.if_icmp .ne 7, 3) := by decide +kernel
theorem dX9_make_246 : decode cX9_make 246 = .ok (.iconst 1, 1) := by decide +kernel
theorem dX9_make_247 : decode cX9_make 247 = .ok (.goto 4, 3) := by decide +kernel
theorem dX9_make_250 : decode cX9_make 250 = .ok (.iconst 0, 1) := by decide +kernel
theorem dX9_make_251 : decode cX9_make 251 = .ok (.putfield 61, 3) := by decide +kernel
theorem dX9_make_254 : decode cX9_make 254 = .ok (.return_, 1) := by decide +kernel
theorem dX9_choose_0 : decode cX9_choose 0 = .ok (.iload_n 2, 1) := by decide +kernel
theorem dX9_choose_1 : decode cX9_choose 1 = .ok (.tableswitch 62 0 3 #[31, 39, 31, 54], 31) := by decide +kernel
theorem dX9_choose_32 : decode cX9_choose 32 = .ok (.aload_n 0, 1) := by decide +kernel
theorem dX9_choose_33 : decode cX9_choose 33 = .ok (.iload_n 3, 1) := by decide +kernel
theorem dX9_choose_34 : decode cX9_choose 34 = .ok (.iload 5, 2) := by decide +kernel
theorem dX9_choose_36 : decode cX9_choose 36 = .ok (.invokevirtual 65, 3) := by decide +kernel
theorem dX9_choose_39 : decode cX9_choose 39 = .ok (.ireturn, 1) := by decide +kernel
theorem dX9_choose_40 : decode cX9_choose 40 = .ok (.aload_n 0, 1) := by decide +kernel
theorem dX9_choose_41 : decode cX9_choose 41 = .ok (.aload_n 1, 1) := by decide +kernel
theorem dX9_choose_42 : decode cX9_choose 42 = .ok (.iload_n 3, 1) := by decide +kernel
theorem dX9_choose_43 : decode cX9_choose 43 = .ok (.iload 5, 2) := by decide +kernel
theorem dX9_choose_45 : decode cX9_choose 45 = .ok (.invokevirtual 69, 3) := by decide +kernel
theorem dX9_choose_48 : decode cX9_choose 48 = .ok (.iload_n 3, 1) := by decide +kernel
theorem dX9_choose_49 : decode cX9_choose 49 = .ok (.iload 4, 2) := by decide +kernel
theorem dX9_choose_51 : decode cX9_choose 51 = .ok (.invokestatic 74, 3) := by decide +kernel
theorem dX9_choose_54 : decode cX9_choose 54 = .ok (.ireturn, 1) := by decide +kernel
theorem dX9_choose_55 : decode cX9_choose 55 = .ok (.aload_n 0, 1) := by decide +kernel
theorem dX9_choose_56 : decode cX9_choose 56 = .ok (.iload_n 3, 1) := by decide +kernel
theorem dX9_choose_57 : decode cX9_choose 57 = .ok (.iload 4, 2) := by decide +kernel
theorem dX9_choose_59 : decode cX9_choose 59 = .ok (.invokevirtual 78, 3) := by decide +kernel
theorem dX9_choose_62 : decode cX9_choose 62 = .ok (.ireturn, 1) := by decide +kernel
theorem dX9_choose_63 : decode cX9_choose 63 = .ok (.iconst (-1), 1) := by decide +kernel
theorem dX9_choose_64 : decode cX9_choose 64 = .ok (.ireturn, 1) := by decide +kernel
theorem dX9_chooseBySign_0 : decode cX9_chooseBySign 0 = .ok (.iload_n 1, 1) := by decide +kernel
theorem dX9_chooseBySign_1 : decode cX9_chooseBySign 1 = .ok (.iconst (-1), 1) := by decide +kernel
theorem dX9_chooseBySign_2 : decode cX9_chooseBySign 2 = .ok (.if_icmp .eq 18, 3) := by decide +kernel
theorem dX9_chooseBySign_5 : decode cX9_chooseBySign 5 = .ok (.aload_n 0, 1) := by decide +kernel
theorem dX9_chooseBySign_6 : decode cX9_chooseBySign 6 = .ok (.getfield 45, 3) := by decide +kernel
theorem dX9_chooseBySign_9 : decode cX9_chooseBySign 9 = .ok (.iload_n 2, 1) := by decide +kernel
theorem dX9_chooseBySign_10 : decode cX9_chooseBySign 10 = .ok (.aaload, 1) := by decide +kernel
theorem dX9_chooseBySign_11 : decode cX9_chooseBySign 11 = .ok (.iload_n 1, 1) := by decide +kernel
theorem dX9_chooseBySign_12 : decode cX9_chooseBySign 12 = .ok (.iaload, 1) := by decide +kernel
theorem dX9_chooseBySign_13 : decode cX9_chooseBySign 13 = .ok (.ifCond .le 7, 3) := by decide +kernel
theorem dX9_chooseBySign_16 : decode cX9_chooseBySign 16 = .ok (.iconst 1, 1) := by decide +kernel
theorem dX9_chooseBySign_17 : decode cX9_chooseBySign 17 = .ok (.goto 4, 3) := by decide +kernel
theorem dX9_chooseBySign_20 : decode cX9_chooseBySign 20 = .ok (.iconst 0, 1) := by decide +kernel
theorem dX9_chooseBySign_21 : decode cX9_chooseBySign 21 = .ok (.istore 4, 2) := by decide +kernel
theorem dX9_chooseBySign_23 : decode cX9_chooseBySign 23 = .ok (.iload 4, 2) := by decide +kernel
theorem dX9_chooseBySign_25 : decode cX9_chooseBySign 25 = .ok (.ifCond .eq 7, 3) := by decide +kernel
theorem dX9_chooseBySign_28 : decode cX9_chooseBySign 28 = .ok (.iload_n 1, 1) := by decide +kernel
theorem dX9_chooseBySign_29 : decode cX9_chooseBySign 29 = .ok (.goto 9, 3) := by decide +kernel
theorem dX9_chooseBySign_32 : decode cX9_chooseBySign 32 = .ok (.aload_n 0, 1) := by decide +kernel
theorem dX9_chooseBySign_33 : decode cX9_chooseBySign 33 = .ok (.iload_n 2, 1) := by decide +kernel
theorem dX9_chooseBySign_34 : decode cX9_chooseBySign 34 = .ok (.iload_n 3, 1) := by decide +kernel
theorem dX9_chooseBySign_35 : decode cX9_chooseBySign 35 = .ok (.invokevirtual 81, 3) := by decide +kernel
theorem dX9_chooseBySign_38 : decode cX9_chooseBySign 38 = .ok (.ireturn, 1) := by decide +kernel
theorem dX9_placeBehind_0 : decode cX9_placeBehind 0 = .ok (.aload_n 0, 1) := by decide +kernel
theorem dX9_placeBehind_1 : decode cX9_placeBehind 1 = .ok (.getfield 9, 3) := by decide +kernel
theorem dX9_placeBehind_4 : decode cX9_placeBehind 4 = .ok (.iconst 0, 1) := by decide +kernel
theorem dX9_placeBehind_5 : decode cX9_placeBehind 5 = .ok (.iload_n 1, 1) := by decide +kernel
theorem dX9_placeBehind_6 : decode cX9_placeBehind 6 = .ok (.aload_n 0, 1) := by decide +kernel
theorem dX9_placeBehind_7 : decode cX9_placeBehind 7 = .ok (.getfield 19, 3) := by decide +kernel
theorem dX9_placeBehind_10 : decode cX9_placeBehind 10 = .ok (.invokestatic 84, 3) := by decide +kernel
theorem dX9_placeBehind_13 : decode cX9_placeBehind 13 = .ok (.invokestatic 89, 3) := by decide +kernel
theorem dX9_placeBehind_16 : decode cX9_placeBehind 16 = .ok (.iaload, 1) := by decide +kernel
theorem dX9_placeBehind_17 : decode cX9_placeBehind 17 = .ok (.ireturn, 1) := by decide +kernel
theorem dX9_firstRepeat_0 : decode cX9_firstRepeat 0 = .ok (.iconst 2, 1) := by decide +kernel
theorem dX9_firstRepeat_1 : decode cX9_firstRepeat 1 = .ok (.istore_n 1, 1) := by decide +kernel
theorem dX9_firstRepeat_2 : decode cX9_firstRepeat 2 = .ok (.iload_n 1, 1) := by decide +kernel
theorem dX9_firstRepeat_3 : decode cX9_firstRepeat 3 = .ok (.aload_n 0, 1) := by decide +kernel
theorem dX9_firstRepeat_4 : decode cX9_firstRepeat 4 = .ok (.getfield 19, 3) := by decide +kernel
theorem dX9_firstRepeat_7 : decode cX9_firstRepeat 7 = .ok (.if_icmp .gt 58, 3) := by decide +kernel
theorem dX9_firstRepeat_10 : decode cX9_firstRepeat 10 = .ok (.iconst 1, 1) := by decide +kernel
theorem dX9_firstRepeat_11 : decode cX9_firstRepeat 11 = .ok (.istore_n 2, 1) := by decide +kernel
theorem dX9_firstRepeat_12 : decode cX9_firstRepeat 12 = .ok (.iload_n 2, 1) := by decide +kernel
theorem dX9_firstRepeat_13 : decode cX9_firstRepeat 13 = .ok (.iload_n 1, 1) := by decide +kernel
theorem dX9_firstRepeat_14 : decode cX9_firstRepeat 14 = .ok (.if_icmp .ge 45, 3) := by decide +kernel
theorem dX9_firstRepeat_17 : decode cX9_firstRepeat 17 = .ok (.aload_n 0, 1) := by decide +kernel
theorem dX9_firstRepeat_18 : decode cX9_firstRepeat 18 = .ok (.getfield 9, 3) := by decide +kernel
theorem dX9_firstRepeat_21 : decode cX9_firstRepeat 21 = .ok (.iload_n 1, 1) := by decide +kernel
theorem dX9_firstRepeat_22 : decode cX9_firstRepeat 22 = .ok (.iaload, 1) := by decide +kernel
theorem dX9_firstRepeat_23 : decode cX9_firstRepeat 23 = .ok (.aload_n 0, 1) := by decide +kernel
theorem dX9_firstRepeat_24 : decode cX9_firstRepeat 24 = .ok (.getfield 9, 3) := by decide +kernel
theorem dX9_firstRepeat_27 : decode cX9_firstRepeat 27 = .ok (.iload_n 2, 1) := by decide +kernel
theorem dX9_firstRepeat_28 : decode cX9_firstRepeat 28 = .ok (.iaload, 1) := by decide +kernel
theorem dX9_firstRepeat_29 : decode cX9_firstRepeat 29 = .ok (.if_icmp .ne 24, 3) := by decide +kernel
theorem dX9_firstRepeat_32 : decode cX9_firstRepeat 32 = .ok (.aload_n 0, 1) := by decide +kernel
theorem dX9_firstRepeat_33 : decode cX9_firstRepeat 33 = .ok (.getfield 9, 3) := by decide +kernel
theorem dX9_firstRepeat_36 : decode cX9_firstRepeat 36 = .ok (.iload_n 1, 1) := by decide +kernel
theorem dX9_firstRepeat_37 : decode cX9_firstRepeat 37 = .ok (.iconst 1, 1) := by decide +kernel
theorem dX9_firstRepeat_38 : decode cX9_firstRepeat 38 = .ok (.isub, 1) := by decide +kernel
theorem dX9_firstRepeat_39 : decode cX9_firstRepeat 39 = .ok (.iaload, 1) := by decide +kernel
theorem dX9_firstRepeat_40 : decode cX9_firstRepeat 40 = .ok (.aload_n 0, 1) := by decide +kernel
theorem dX9_firstRepeat_41 : decode cX9_firstRepeat 41 = .ok (.getfield 9, 3) := by decide +kernel
theorem dX9_firstRepeat_44 : decode cX9_firstRepeat 44 = .ok (.iload_n 2, 1) := by decide +kernel
theorem dX9_firstRepeat_45 : decode cX9_firstRepeat 45 = .ok (.iconst 1, 1) := by decide +kernel
theorem dX9_firstRepeat_46 : decode cX9_firstRepeat 46 = .ok (.isub, 1) := by decide +kernel
theorem dX9_firstRepeat_47 : decode cX9_firstRepeat 47 = .ok (.iaload, 1) := by decide +kernel
theorem dX9_firstRepeat_48 : decode cX9_firstRepeat 48 = .ok (.if_icmp .ne 5, 3) := by decide +kernel
theorem dX9_firstRepeat_51 : decode cX9_firstRepeat 51 = .ok (.iload_n 1, 1) := by decide +kernel
theorem dX9_firstRepeat_52 : decode cX9_firstRepeat 52 = .ok (.ireturn, 1) := by decide +kernel
theorem dX9_firstRepeat_53 : decode cX9_firstRepeat 53 = .ok (.iinc 2 1, 3) := by decide +kernel
theorem dX9_firstRepeat_56 : decode cX9_firstRepeat 56 = .ok (.goto (-44), 3) := by decide +kernel
theorem dX9_firstRepeat_59 : decode cX9_firstRepeat 59 = .ok (.iinc 1 1, 3) := by decide +kernel
theorem dX9_firstRepeat_62 : decode cX9_firstRepeat 62 = .ok (.goto (-60), 3) := by decide +kernel
theorem dX9_firstRepeat_65 : decode cX9_firstRepeat 65 = .ok (.bipush (-4), 2) := by decide +kernel
theorem dX9_firstRepeat_67 : decode cX9_firstRepeat 67 = .ok (.ireturn, 1) := by decide +kernel
theorem dX9_tallyWrong_0 : decode cX9_tallyWrong 0 = .ok (.iconst 0, 1) := by decide +kernel
theorem dX9_tallyWrong_1 : decode cX9_tallyWrong 1 = .ok (.istore_n 2, 1) := by decide +kernel
theorem dX9_tallyWrong_2 : decode cX9_tallyWrong 2 = .ok (.iload_n 2, 1) := by decide +kernel
theorem dX9_tallyWrong_3 : decode cX9_tallyWrong 3 = .ok (.aload_n 0, 1) := by decide +kernel
theorem dX9_tallyWrong_4 : decode cX9_tallyWrong 4 = .ok (.getfield 19, 3) := by decide +kernel
theorem dX9_tallyWrong_7 : decode cX9_tallyWrong 7 = .ok (.if_icmp .ge 30, 3) := by decide +kernel
theorem dX9_tallyWrong_10 : decode cX9_tallyWrong 10 = .ok (.aload_n 0, 1) := by decide +kernel
theorem dX9_tallyWrong_11 : decode cX9_tallyWrong 11 = .ok (.getfield 15, 3) := by decide +kernel
theorem dX9_tallyWrong_14 : decode cX9_tallyWrong 14 = .ok (.iload_n 2, 1) := by decide +kernel
theorem dX9_tallyWrong_15 : decode cX9_tallyWrong 15 = .ok (.baload, 1) := by decide +kernel
theorem dX9_tallyWrong_16 : decode cX9_tallyWrong 16 = .ok (.ifCond .eq 15, 3) := by decide +kernel
theorem dX9_tallyWrong_19 : decode cX9_tallyWrong 19 = .ok (.aload_n 1, 1) := by decide +kernel
theorem dX9_tallyWrong_20 : decode cX9_tallyWrong 20 = .ok (.aload_n 0, 1) := by decide +kernel
theorem dX9_tallyWrong_21 : decode cX9_tallyWrong 21 = .ok (.getfield 9, 3) := by decide +kernel
theorem dX9_tallyWrong_24 : decode cX9_tallyWrong 24 = .ok (.iload_n 2, 1) := by decide +kernel
theorem dX9_tallyWrong_25 : decode cX9_tallyWrong 25 = .ok (.iaload, 1) := by decide +kernel
theorem dX9_tallyWrong_26 : decode cX9_tallyWrong 26 = .ok (.dup2, 1) := by decide +kernel
theorem dX9_tallyWrong_27 : decode cX9_tallyWrong 27 = .ok (.iaload, 1) := by decide +kernel
theorem dX9_tallyWrong_28 : decode cX9_tallyWrong 28 = .ok (.iconst 1, 1) := by decide +kernel
theorem dX9_tallyWrong_29 : decode cX9_tallyWrong 29 = .ok (.iadd, 1) := by decide +kernel
theorem dX9_tallyWrong_30 : decode cX9_tallyWrong 30 = .ok (.iastore, 1) := by decide +kernel
theorem dX9_tallyWrong_31 : decode cX9_tallyWrong 31 = .ok (.iinc 2 1, 3) := by decide +kernel
theorem dX9_tallyWrong_34 : decode cX9_tallyWrong 34 = .ok (.goto (-32), 3) := by decide +kernel
theorem dX9_tallyWrong_37 : decode cX9_tallyWrong 37 = .ok (.return_, 1) := by decide +kernel
theorem dX10_init_0 : decode cX10_init 0 = .ok (.aload_n 0, 1) := by decide +kernel
theorem dX10_init_1 : decode cX10_init 1 = .ok (.invokespecial 3, 3) := by decide +kernel
theorem dX10_init_4 : decode cX10_init 4 = .ok (.aload_n 0, 1) := by decide +kernel
theorem dX10_init_5 : decode cX10_init 5 = .ok (.iconst 4, 1) := by decide +kernel
theorem dX10_init_6 : decode cX10_init 6 = .ok (.newarray .int, 2) := by decide +kernel
theorem dX10_init_8 : decode cX10_init 8 = .ok (.putfield 9, 3) := by decide +kernel
theorem dX10_init_11 : decode cX10_init 11 = .ok (.aload_n 0, 1) := by decide +kernel
theorem dX10_init_12 : decode cX10_init 12 = .ok (.iconst 4, 1) := by decide +kernel
theorem dX10_init_13 : decode cX10_init 13 = .ok (.newarray .int, 2) := by decide +kernel
theorem dX10_init_15 : decode cX10_init 15 = .ok (.putfield 15, 3) := by decide +kernel
theorem dX10_init_18 : decode cX10_init 18 = .ok (.aload_n 0, 1) := by decide +kernel
theorem dX10_init_19 : decode cX10_init 19 = .ok (.iconst 4, 1) := by decide +kernel
theorem dX10_init_20 : decode cX10_init 20 = .ok (.newarray .int, 2) := by decide +kernel
theorem dX10_init_22 : decode cX10_init 22 = .ok (.putfield 18, 3) := by decide +kernel
theorem dX10_init_25 : decode cX10_init 25 = .ok (.aload_n 0, 1) := by decide +kernel
theorem dX10_init_26 : decode cX10_init 26 = .ok (.iconst 4, 1) := by decide +kernel
theorem dX10_init_27 : decode cX10_init 27 = .ok (.newarray .int, 2) := by decide +kernel
theorem dX10_init_29 : decode cX10_init 29 = .ok (.putfield 21, 3) := by decide +kernel
theorem dX10_init_32 : decode cX10_init 32 = .ok (.return_, 1) := by decide +kernel
theorem dX10_add_0 : decode cX10_add 0 = .ok (.aload_n 0, 1) := by decide +kernel
theorem dX10_add_1 : decode cX10_add 1 = .ok (.getfield 24, 3) := by decide +kernel
theorem dX10_add_4 : decode cX10_add 4 = .ok (.iconst 4, 1) := by decide +kernel
theorem dX10_add_5 : decode cX10_add 5 = .ok (.if_icmp .ge 53, 3) := by decide +kernel
theorem dX10_add_8 : decode cX10_add 8 = .ok (.aload_n 0, 1) := by decide +kernel
theorem dX10_add_9 : decode cX10_add 9 = .ok (.getfield 9, 3) := by decide +kernel
theorem dX10_add_12 : decode cX10_add 12 = .ok (.aload_n 0, 1) := by decide +kernel
theorem dX10_add_13 : decode cX10_add 13 = .ok (.getfield 24, 3) := by decide +kernel
theorem dX10_add_16 : decode cX10_add 16 = .ok (.iload_n 1, 1) := by decide +kernel
theorem dX10_add_17 : decode cX10_add 17 = .ok (.iastore, 1) := by decide +kernel
theorem dX10_add_18 : decode cX10_add 18 = .ok (.aload_n 0, 1) := by decide +kernel
theorem dX10_add_19 : decode cX10_add 19 = .ok (.getfield 15, 3) := by decide +kernel
theorem dX10_add_22 : decode cX10_add 22 = .ok (.aload_n 0, 1) := by decide +kernel
theorem dX10_add_23 : decode cX10_add 23 = .ok (.getfield 24, 3) := by decide +kernel
theorem dX10_add_26 : decode cX10_add 26 = .ok (.iload_n 2, 1) := by decide +kernel
theorem dX10_add_27 : decode cX10_add 27 = .ok (.iastore, 1) := by decide +kernel
theorem dX10_add_28 : decode cX10_add 28 = .ok (.aload_n 0, 1) := by decide +kernel
theorem dX10_add_29 : decode cX10_add 29 = .ok (.getfield 18, 3) := by decide +kernel
theorem dX10_add_32 : decode cX10_add 32 = .ok (.aload_n 0, 1) := by decide +kernel
theorem dX10_add_33 : decode cX10_add 33 = .ok (.getfield 24, 3) := by decide +kernel
theorem dX10_add_36 : decode cX10_add 36 = .ok (.iload_n 3, 1) := by decide +kernel
theorem dX10_add_37 : decode cX10_add 37 = .ok (.iastore, 1) := by decide +kernel
theorem dX10_add_38 : decode cX10_add 38 = .ok (.aload_n 0, 1) := by decide +kernel
theorem dX10_add_39 : decode cX10_add 39 = .ok (.getfield 21, 3) := by decide +kernel
theorem dX10_add_42 : decode cX10_add 42 = .ok (.aload_n 0, 1) := by decide +kernel
theorem dX10_add_43 : decode cX10_add 43 = .ok (.getfield 24, 3) := by decide +kernel
theorem dX10_add_46 : decode cX10_add 46 = .ok (.iload_n 3, 1) := by decide +kernel
theorem dX10_add_47 : decode cX10_add 47 = .ok (.iastore, 1) := by decide +kernel
theorem dX10_add_48 : decode cX10_add 48 = .ok (.aload_n 0, 1) := by decide +kernel
theorem dX10_add_49 : decode cX10_add 49 = .ok (.dup, 1) := by decide +kernel
theorem dX10_add_50 : decode cX10_add 50 = .ok (.getfield 24, 3) := by decide +kernel
theorem dX10_add_53 : decode cX10_add 53 = .ok (.iconst 1, 1) := by decide +kernel
theorem dX10_add_54 : decode cX10_add 54 = .ok (.iadd, 1) := by decide +kernel
theorem dX10_add_55 : decode cX10_add 55 = .ok (.putfield 24, 3) := by decide +kernel
theorem dX10_add_58 : decode cX10_add 58 = .ok (.return_, 1) := by decide +kernel
theorem dX10_anyStrangerTo_0 : decode cX10_anyStrangerTo 0 = .ok (.iconst 0, 1) := by decide +kernel
theorem dX10_anyStrangerTo_1 : decode cX10_anyStrangerTo 1 = .ok (.istore_n 2, 1) := by decide +kernel
theorem dX10_anyStrangerTo_2 : decode cX10_anyStrangerTo 2 = .ok (.iload_n 2, 1) := by decide +kernel
theorem dX10_anyStrangerTo_3 : decode cX10_anyStrangerTo 3 = .ok (.aload_n 0, 1) := by decide +kernel
theorem dX10_anyStrangerTo_4 : decode cX10_anyStrangerTo 4 = .ok (.getfield 24, 3) := by decide +kernel
theorem dX10_anyStrangerTo_7 : decode cX10_anyStrangerTo 7 = .ok (.if_icmp .ge 31, 3) := by decide +kernel
theorem dX10_anyStrangerTo_10 : decode cX10_anyStrangerTo 10 = .ok (.aload_n 0, 1) := by decide +kernel
theorem dX10_anyStrangerTo_11 : decode cX10_anyStrangerTo 11 = .ok (.getfield 9, 3) := by decide +kernel
theorem dX10_anyStrangerTo_14 : decode cX10_anyStrangerTo 14 = .ok (.iload_n 2, 1) := by decide +kernel
theorem dX10_anyStrangerTo_15 : decode cX10_anyStrangerTo 15 = .ok (.iaload, 1) := by decide +kernel
theorem dX10_anyStrangerTo_16 : decode cX10_anyStrangerTo 16 = .ok (.iconst 1, 1) := by decide +kernel
theorem dX10_anyStrangerTo_17 : decode cX10_anyStrangerTo 17 = .ok (.if_icmp .ne 15, 3) := by decide +kernel
theorem dX10_anyStrangerTo_20 : decode cX10_anyStrangerTo 20 = .ok (.aload_n 0, 1) := by decide +kernel
theorem dX10_anyStrangerTo_21 : decode cX10_anyStrangerTo 21 = .ok (.getfield 18, 3) := by decide +kernel
theorem dX10_anyStrangerTo_24 : decode cX10_anyStrangerTo 24 = .ok (.iload_n 2, 1) := by decide +kernel
theorem dX10_anyStrangerTo_25 : decode cX10_anyStrangerTo 25 = .ok (.iaload, 1) := by decide +kernel
theorem dX10_anyStrangerTo_26 : decode cX10_anyStrangerTo 26 = .ok (.iload_n 1, 1) := by decide +kernel
theorem dX10_anyStrangerTo_27 : decode cX10_anyStrangerTo 27 = .ok (.if_icmp .ne 5, 3) := by decide +kernel
theorem dX10_anyStrangerTo_30 : decode cX10_anyStrangerTo 30 = .ok (.iconst 1, 1) := by decide +kernel
theorem dX10_anyStrangerTo_31 : decode cX10_anyStrangerTo 31 = .ok (.ireturn, 1) := by decide +kernel
theorem dX10_anyStrangerTo_32 : decode cX10_anyStrangerTo 32 = .ok (.iinc 2 1, 3) := by decide +kernel
theorem dX10_anyStrangerTo_35 : decode cX10_anyStrangerTo 35 = .ok (.goto (-33), 3) := by decide +kernel
theorem dX10_anyStrangerTo_38 : decode cX10_anyStrangerTo 38 = .ok (.iconst 0, 1) := by decide +kernel
theorem dX10_anyStrangerTo_39 : decode cX10_anyStrangerTo 39 = .ok (.ireturn, 1) := by decide +kernel
theorem dX11_init_0 : decode cX11_init 0 = .ok (.aload_n 0, 1) := by decide +kernel
theorem dX11_init_1 : decode cX11_init 1 = .ok (.invokespecial 1, 3) := by decide +kernel
theorem dX11_init_4 : decode cX11_init 4 = .ok (.aload_n 0, 1) := by decide +kernel
theorem dX11_init_5 : decode cX11_init 5 = .ok (.new 7, 3) := by decide +kernel
theorem dX11_init_8 : decode cX11_init 8 = .ok (.dup, 1) := by decide +kernel
theorem dX11_init_9 : decode cX11_init 9 = .ok (.invokespecial 9, 3) := by decide +kernel
theorem dX11_init_12 : decode cX11_init 12 = .ok (.putfield 10, 3) := by decide +kernel
theorem dX11_init_15 : decode cX11_init 15 = .ok (.aload_n 0, 1) := by decide +kernel
theorem dX11_init_16 : decode cX11_init 16 = .ok (.new 16, 3) := by decide +kernel
theorem dX11_init_19 : decode cX11_init 19 = .ok (.dup, 1) := by decide +kernel
theorem dX11_init_20 : decode cX11_init 20 = .ok (.invokespecial 18, 3) := by decide +kernel
theorem dX11_init_23 : decode cX11_init 23 = .ok (.putfield 19, 3) := by decide +kernel
theorem dX11_init_26 : decode cX11_init 26 = .ok (.aload_n 0, 1) := by decide +kernel
theorem dX11_init_27 : decode cX11_init 27 = .ok (.new 23, 3) := by decide +kernel
theorem dX11_init_30 : decode cX11_init 30 = .ok (.dup, 1) := by decide +kernel
theorem dX11_init_31 : decode cX11_init 31 = .ok (.invokespecial 25, 3) := by decide +kernel
theorem dX11_init_34 : decode cX11_init 34 = .ok (.putfield 26, 3) := by decide +kernel
theorem dX11_init_37 : decode cX11_init 37 = .ok (.aload_n 0, 1) := by decide +kernel
theorem dX11_init_38 : decode cX11_init 38 = .ok (.new 23, 3) := by decide +kernel
theorem dX11_init_41 : decode cX11_init 41 = .ok (.dup, 1) := by decide +kernel
theorem dX11_init_42 : decode cX11_init 42 = .ok (.invokespecial 25, 3) := by decide +kernel
theorem dX11_init_45 : decode cX11_init 45 = .ok (.putfield 30, 3) := by decide +kernel
theorem dX11_init_48 : decode cX11_init 48 = .ok (.aload_n 0, 1) := by decide +kernel
theorem dX11_init_49 : decode cX11_init 49 = .ok (.new 33, 3) := by decide +kernel
theorem dX11_init_52 : decode cX11_init 52 = .ok (.dup, 1) := by decide +kernel
theorem dX11_init_53 : decode cX11_init 53 = .ok (.invokespecial 35, 3) := by decide +kernel
theorem dX11_init_56 : decode cX11_init 56 = .ok (.putfield 36, 3) := by decide +kernel
theorem dX11_init_59 : decode cX11_init 59 = .ok (.aload_n 0, 1) := by decide +kernel
theorem dX11_init_60 : decode cX11_init 60 = .ok (.new 40, 3) := by decide +kernel
theorem dX11_init_63 : decode cX11_init 63 = .ok (.dup, 1) := by decide +kernel
theorem dX11_init_64 : decode cX11_init 64 = .ok (.invokespecial 42, 3) := by decide +kernel
theorem dX11_init_67 : decode cX11_init 67 = .ok (.putfield 43, 3) := by decide +kernel
theorem dX11_init_70 : decode cX11_init 70 = .ok (.aload_n 0, 1) := by decide +kernel
theorem dX11_init_71 : decode cX11_init 71 = .ok (.new 47, 3) := by decide +kernel
theorem dX11_init_74 : decode cX11_init 74 = .ok (.dup, 1) := by decide +kernel
theorem dX11_init_75 : decode cX11_init 75 = .ok (.invokespecial 49, 3) := by decide +kernel
theorem dX11_init_78 : decode cX11_init 78 = .ok (.putfield 50, 3) := by decide +kernel
theorem dX11_init_81 : decode cX11_init 81 = .ok (.aload_n 0, 1) := by decide +kernel
theorem dX11_init_82 : decode cX11_init 82 = .ok (.new 54, 3) := by decide +kernel
theorem dX11_init_85 : decode cX11_init 85 = .ok (.dup, 1) := by decide +kernel
theorem dX11_init_86 : decode cX11_init 86 = .ok (.invokespecial 56, 3) := by decide +kernel
theorem dX11_init_89 : decode cX11_init 89 = .ok (.putfield 57, 3) := by decide +kernel
theorem dX11_init_92 : decode cX11_init 92 = .ok (.aload_n 0, 1) := by decide +kernel
theorem dX11_init_93 : decode cX11_init 93 = .ok (.new 61, 3) := by decide +kernel
theorem dX11_init_96 : decode cX11_init 96 = .ok (.dup, 1) := by decide +kernel
theorem dX11_init_97 : decode cX11_init 97 = .ok (.invokespecial 63, 3) := by decide +kernel
theorem dX11_init_100 : decode cX11_init 100 = .ok (.putfield 64, 3) := by decide +kernel
theorem dX11_init_103 : decode cX11_init 103 = .ok (.aload_n 0, 1) := by decide +kernel
theorem dX11_init_104 : decode cX11_init 104 = .ok (.new 68, 3) := by decide +kernel
theorem dX11_init_107 : decode cX11_init 107 = .ok (.dup, 1) := by decide +kernel
theorem dX11_init_108 : decode cX11_init 108 = .ok (.invokespecial 70, 3) := by decide +kernel
theorem dX11_init_111 : decode cX11_init 111 = .ok (.putfield 71, 3) := by decide +kernel
theorem dX11_init_114 : decode cX11_init 114 = .ok (.aload_n 0, 1) := by decide +kernel
theorem dX11_init_115 : decode cX11_init 115 = .ok (.bipush 8, 2) := by decide +kernel
theorem dX11_init_117 : decode cX11_init 117 = .ok (.bipush 8, 2) := by decide +kernel
theorem dX11_init_119 : decode cX11_init 119 = .ok (.multianewarray 75 2, 4) := by decide +kernel
theorem dX11_init_123 : decode cX11_init 123 = .ok (.putfield 77, 3) := by decide +kernel
theorem dX11_init_126 : decode cX11_init 126 = .ok (.aload_n 0, 1) := by decide +kernel
theorem dX11_init_127 : decode cX11_init 127 = .ok (.bipush 8, 2) := by decide +kernel
theorem dX11_init_129 : decode cX11_init 129 = .ok (.newarray .int, 2) := by decide +kernel
theorem dX11_init_131 : decode cX11_init 131 = .ok (.putfield 80, 3) := by decide +kernel
theorem dX11_init_134 : decode cX11_init 134 = .ok (.aload_n 0, 1) := by decide +kernel
theorem dX11_init_135 : decode cX11_init 135 = .ok (.iconst 4, 1) := by decide +kernel
theorem dX11_init_136 : decode cX11_init 136 = .ok (.newarray .int, 2) := by decide +kernel
theorem dX11_init_138 : decode cX11_init 138 = .ok (.putfield 84, 3) := by decide +kernel
theorem dX11_init_141 : decode cX11_init 141 = .ok (.iconst 0, 1) := by decide +kernel
theorem dX11_init_142 : decode cX11_init 142 = .ok (.istore_n 1, 1) := by decide +kernel
theorem dX11_init_143 : decode cX11_init 143 = .ok (.iload_n 1, 1) := by decide +kernel
theorem dX11_init_144 : decode cX11_init 144 = .ok (.ldc 87, 2) := by decide +kernel
theorem dX11_init_146 : decode cX11_init 146 = .ok (.invokevirtual 89, 3) := by decide +kernel
theorem dX11_init_149 : decode cX11_init 149 = .ok (.if_icmp .ge 22, 3) := by decide +kernel
theorem dX11_init_152 : decode cX11_init 152 = .ok (.aload_n 0, 1) := by decide +kernel
theorem dX11_init_153 : decode cX11_init 153 = .ok (.getfield 10, 3) := by decide +kernel
theorem dX11_init_156 : decode cX11_init 156 = .ok (.ldc 87, 2) := by decide +kernel
theorem dX11_init_158 : decode cX11_init 158 = .ok (.iload_n 1, 1) := by decide +kernel
theorem dX11_init_159 : decode cX11_init 159 = .ok (.invokevirtual 95, 3) := by decide +kernel
theorem dX11_init_162 : decode cX11_init 162 = .ok (.invokevirtual 99, 3) := by decide +kernel
theorem dX11_init_165 : decode cX11_init 165 = .ok (.iinc 1 1, 3) := by decide +kernel
theorem dX11_init_168 : decode cX11_init 168 = .ok (.goto (-25), 3) := by decide +kernel
theorem dX11_init_171 : decode cX11_init 171 = .ok (.aload_n 0, 1) := by decide +kernel
theorem dX11_init_172 : decode cX11_init 172 = .ok (.invokevirtual 103, 3) := by decide +kernel
theorem dX11_init_175 : decode cX11_init 175 = .ok (.pop, 1) := by decide +kernel
theorem dX11_init_176 : decode cX11_init 176 = .ok (.aload_n 0, 1) := by decide +kernel
theorem dX11_init_177 : decode cX11_init 177 = .ok (.invokevirtual 106, 3) := by decide +kernel
theorem dX11_init_180 : decode cX11_init 180 = .ok (.pop, 1) := by decide +kernel
theorem dX11_init_181 : decode cX11_init 181 = .ok (.return_, 1) := by decide +kernel
theorem dX11_write_0 : decode cX11_write 0 = .ok (.iload_n 1, 1) := by decide +kernel
theorem dX11_write_1 : decode cX11_write 1 = .ok (.bipush 32, 2) := by decide +kernel
theorem dX11_write_3 : decode cX11_write 3 = .ok (.if_icmp .lt 9, 3) := by decide +kernel
theorem dX11_write_6 : decode cX11_write 6 = .ok (.iload_n 1, 1) := by decide +kernel
theorem dX11_write_7 : decode cX11_write 7 = .ok (.bipush 126, 2) := by decide +kernel
theorem dX11_write_9 : decode cX11_write 9 = .ok (.if_icmp .le 5, 3) := by decide +kernel
theorem dX11_write_12 : decode cX11_write 12 = .ok (.iconst (-1), 1) := by decide +kernel
theorem dX11_write_13 : decode cX11_write 13 = .ok (.ireturn, 1) := by decide +kernel
theorem dX11_write_14 : decode cX11_write 14 = .ok (.aload_n 0, 1) := by decide +kernel
theorem dX11_write_15 : decode cX11_write 15 = .ok (.getfield 10, 3) := by decide +kernel
theorem dX11_write_18 : decode cX11_write 18 = .ok (.getfield 109, 3) := by decide +kernel
theorem dX11_write_21 : decode cX11_write 21 = .ok (.sipush 200, 3) := by decide +kernel
theorem dX11_write_24 : decode cX11_write 24 = .ok (.if_icmp .lt 6, 3) := by decide +kernel
theorem dX11_write_27 : decode cX11_write 27 = .ok (.bipush (-3), 2) := by decide +kernel
theorem dX11_write_29 : decode cX11_write 29 = .ok (.ireturn, 1) := by decide +kernel
theorem dX11_write_30 : decode cX11_write 30 = .ok (.aload_n 0, 1) := by decide +kernel
theorem dX11_write_31 : decode cX11_write 31 = .ok (.getfield 10, 3) := by decide +kernel
theorem dX11_write_34 : decode cX11_write 34 = .ok (.iload_n 1, 1) := by decide +kernel
theorem dX11_write_35 : decode cX11_write 35 = .ok (.invokevirtual 99, 3) := by decide +kernel
theorem dX11_write_38 : decode cX11_write 38 = .ok (.aload_n 0, 1) := by decide +kernel
theorem dX11_write_39 : decode cX11_write 39 = .ok (.getfield 10, 3) := by decide +kernel
theorem dX11_write_42 : decode cX11_write 42 = .ok (.getfield 109, 3) := by decide +kernel
theorem dX11_write_45 : decode cX11_write 45 = .ok (.ireturn, 1) := by decide +kernel
theorem dX11_wipe_0 : decode cX11_wipe 0 = .ok (.aload_n 0, 1) := by decide +kernel
theorem dX11_wipe_1 : decode cX11_wipe 1 = .ok (.getfield 10, 3) := by decide +kernel
theorem dX11_wipe_4 : decode cX11_wipe 4 = .ok (.getfield 109, 3) := by decide +kernel
theorem dX11_wipe_7 : decode cX11_wipe 7 = .ok (.istore_n 1, 1) := by decide +kernel
theorem dX11_wipe_8 : decode cX11_wipe 8 = .ok (.aload_n 0, 1) := by decide +kernel
theorem dX11_wipe_9 : decode cX11_wipe 9 = .ok (.getfield 10, 3) := by decide +kernel
theorem dX11_wipe_12 : decode cX11_wipe 12 = .ok (.iconst 0, 1) := by decide +kernel
theorem dX11_wipe_13 : decode cX11_wipe 13 = .ok (.putfield 109, 3) := by decide +kernel
theorem dX11_wipe_16 : decode cX11_wipe 16 = .ok (.iload_n 1, 1) := by decide +kernel
theorem dX11_wipe_17 : decode cX11_wipe 17 = .ok (.ireturn, 1) := by decide +kernel
theorem dX11_fault_0 : decode cX11_fault 0 = .ok (.aload_n 0, 1) := by decide +kernel
theorem dX11_fault_1 : decode cX11_fault 1 = .ok (.getfield 19, 3) := by decide +kernel
theorem dX11_fault_4 : decode cX11_fault 4 = .ok (.aload_n 0, 1) := by decide +kernel
theorem dX11_fault_5 : decode cX11_fault 5 = .ok (.getfield 30, 3) := by decide +kernel
theorem dX11_fault_8 : decode cX11_fault 8 = .ok (.aload_n 0, 1) := by decide +kernel
theorem dX11_fault_9 : decode cX11_fault 9 = .ok (.getfield 10, 3) := by decide +kernel
theorem dX11_fault_12 : decode cX11_fault 12 = .ok (.invokevirtual 112, 3) := by decide +kernel
theorem dX11_fault_15 : decode cX11_fault 15 = .ok (.ireturn, 1) := by decide +kernel
theorem dX11_lay_0 : decode cX11_lay 0 = .ok (.aload_n 0, 1) := by decide +kernel
theorem dX11_lay_1 : decode cX11_lay 1 = .ok (.getfield 19, 3) := by decide +kernel
theorem dX11_lay_4 : decode cX11_lay 4 = .ok (.aload_n 0, 1) := by decide +kernel
theorem dX11_lay_5 : decode cX11_lay 5 = .ok (.getfield 30, 3) := by decide +kernel
theorem dX11_lay_8 : decode cX11_lay 8 = .ok (.aload_n 0, 1) := by decide +kernel
theorem dX11_lay_9 : decode cX11_lay 9 = .ok (.getfield 10, 3) := by decide +kernel
theorem dX11_lay_12 : decode cX11_lay 12 = .ok (.invokevirtual 112, 3) := by decide +kernel
theorem dX11_lay_15 : decode cX11_lay 15 = .ok (.bipush (-4), 2) := by decide +kernel
theorem dX11_lay_17 : decode cX11_lay 17 = .ok (.if_icmp .ne 16, 3) := by decide +kernel
theorem dX11_lay_20 : decode cX11_lay 20 = .ok (.aload_n 0, 1) := by decide +kernel
theorem dX11_lay_21 : decode cX11_lay 21 = .ok (.getfield 30, 3) := by decide +kernel
theorem dX11_lay_24 : decode cX11_lay 24 = .ok (.getfield 116, 3) := by decide +kernel
theorem dX11_lay_27 : decode cX11_lay 27 = .ok (.getfield 120, 3) := by decide +kernel
theorem dX11_lay_30 : decode cX11_lay 30 = .ok (.ifCond .ne 6, 3) := by decide +kernel
theorem dX11_lay_33 : decode cX11_lay 33 = .ok (.bipush (-2), 2) := by decide +kernel
theorem dX11_lay_35 : decode cX11_lay 35 = .ok (.ireturn, 1) := by decide +kernel
theorem dX11_lay_36 : decode cX11_lay 36 = .ok (.aload_n 0, 1) := by decide +kernel
theorem dX11_lay_37 : decode cX11_lay 37 = .ok (.getfield 26, 3) := by decide +kernel
theorem dX11_lay_40 : decode cX11_lay 40 = .ok (.astore_n 1, 1) := by decide +kernel
theorem dX11_lay_41 : decode cX11_lay 41 = .ok (.aload_n 0, 1) := by decide +kernel
theorem dX11_lay_42 : decode cX11_lay 42 = .ok (.aload_n 0, 1) := by decide +kernel
theorem dX11_lay_43 : decode cX11_lay 43 = .ok (.getfield 30, 3) := by decide +kernel
theorem dX11_lay_46 : decode cX11_lay 46 = .ok (.putfield 26, 3) := by decide +kernel
theorem dX11_lay_49 : decode cX11_lay 49 = .ok (.aload_n 0, 1) := by decide +kernel
theorem dX11_lay_50 : decode cX11_lay 50 = .ok (.aload_n 1, 1) := by decide +kernel
theorem dX11_lay_51 : decode cX11_lay 51 = .ok (.putfield 30, 3) := by decide +kernel
theorem dX11_lay_54 : decode cX11_lay 54 = .ok (.aload_n 0, 1) := by decide +kernel
theorem dX11_lay_55 : decode cX11_lay 55 = .ok (.getfield 26, 3) := by decide +kernel
theorem dX11_lay_58 : decode cX11_lay 58 = .ok (.getfield 125, 3) := by decide +kernel
theorem dX11_lay_61 : decode cX11_lay 61 = .ok (.aload_n 0, 1) := by decide +kernel
theorem dX11_lay_62 : decode cX11_lay 62 = .ok (.getfield 26, 3) := by decide +kernel
theorem dX11_lay_65 : decode cX11_lay 65 = .ok (.getfield 125, 3) := by decide +kernel
theorem dX11_lay_68 : decode cX11_lay 68 = .ok (.getfield 129, 3) := by decide +kernel
theorem dX11_lay_71 : decode cX11_lay 71 = .ok (.iconst (-1), 1) := by decide +kernel
theorem dX11_lay_72 : decode cX11_lay 72 = .ok (.invokevirtual 134, 3) := by decide +kernel
theorem dX11_lay_75 : decode cX11_lay 75 = .ok (.aload_n 0, 1) := by decide +kernel
theorem dX11_lay_76 : decode cX11_lay 76 = .ok (.getfield 50, 3) := by decide +kernel
theorem dX11_lay_79 : decode cX11_lay 79 = .ok (.invokevirtual 138, 3) := by decide +kernel
theorem dX11_lay_82 : decode cX11_lay 82 = .ok (.aload_n 0, 1) := by decide +kernel
theorem dX11_lay_83 : decode cX11_lay 83 = .ok (.getfield 57, 3) := by decide +kernel
theorem dX11_lay_86 : decode cX11_lay 86 = .ok (.iconst 0, 1) := by decide +kernel
theorem dX11_lay_87 : decode cX11_lay 87 = .ok (.putfield 141, 3) := by decide +kernel
theorem dX11_lay_90 : decode cX11_lay 90 = .ok (.aload_n 0, 1) := by decide +kernel
theorem dX11_lay_91 : decode cX11_lay 91 = .ok (.getfield 64, 3) := by decide +kernel
theorem dX11_lay_94 : decode cX11_lay 94 = .ok (.iconst 0, 1) := by decide +kernel
theorem dX11_lay_95 : decode cX11_lay 95 = .ok (.putfield 142, 3) := by decide +kernel
theorem dX11_lay_98 : decode cX11_lay 98 = .ok (.aload_n 0, 1) := by decide +kernel
theorem dX11_lay_99 : decode cX11_lay 99 = .ok (.getfield 26, 3) := by decide +kernel
theorem dX11_lay_102 : decode cX11_lay 102 = .ok (.getfield 125, 3) := by decide +kernel
theorem dX11_lay_105 : decode cX11_lay 105 = .ok (.getfield 143, 3) := by decide +kernel
theorem dX11_lay_108 : decode cX11_lay 108 = .ok (.ireturn, 1) := by decide +kernel
theorem dX11_far_0 : decode cX11_far 0 = .ok (.aload_n 0, 1) := by decide +kernel
theorem dX11_far_1 : decode cX11_far 1 = .ok (.iload_n 1, 1) := by decide +kernel
theorem dX11_far_2 : decode cX11_far 2 = .ok (.invokevirtual 146, 3) := by decide +kernel
theorem dX11_far_5 : decode cX11_far 5 = .ok (.ifCond .eq 11, 3) := by decide +kernel
theorem dX11_far_8 : decode cX11_far 8 = .ok (.aload_n 0, 1) := by decide +kernel
theorem dX11_far_9 : decode cX11_far 9 = .ok (.iload_n 2, 1) := by decide +kernel
theorem dX11_far_10 : decode cX11_far 10 = .ok (.invokevirtual 146, 3) := by decide +kernel
theorem dX11_far_13 : decode cX11_far 13 = .ok (.ifCond .ne 5, 3) := by decide +kernel
theorem dX11_far_16 : decode cX11_far 16 = .ok (.iconst (-1), 1) := by decide +kernel
theorem dX11_far_17 : decode cX11_far 17 = .ok (.ireturn, 1) := by decide +kernel
theorem dX11_far_18 : decode cX11_far 18 = .ok (.aload_n 0, 1) := by decide +kernel
theorem dX11_far_19 : decode cX11_far 19 = .ok (.getfield 26, 3) := by decide +kernel
theorem dX11_far_22 : decode cX11_far 22 = .ok (.getfield 125, 3) := by decide +kernel
theorem dX11_far_25 : decode cX11_far 25 = .ok (.getfield 129, 3) := by decide +kernel
theorem dX11_far_28 : decode cX11_far 28 = .ok (.iload_n 1, 1) := by decide +kernel
theorem dX11_far_29 : decode cX11_far 29 = .ok (.aaload, 1) := by decide +kernel
theorem dX11_far_30 : decode cX11_far 30 = .ok (.iload_n 2, 1) := by decide +kernel
theorem dX11_far_31 : decode cX11_far 31 = .ok (.iaload, 1) := by decide +kernel
theorem dX11_far_32 : decode cX11_far 32 = .ok (.ireturn, 1) := by decide +kernel
theorem dX11_street_0 : decode cX11_street 0 = .ok (.aload_n 0, 1) := by decide +kernel
theorem dX11_street_1 : decode cX11_street 1 = .ok (.iload_n 1, 1) := by decide +kernel
theorem dX11_street_2 : decode cX11_street 2 = .ok (.invokevirtual 146, 3) := by decide +kernel
theorem dX11_street_5 : decode cX11_street 5 = .ok (.ifCond .eq 11, 3) := by decide +kernel
theorem dX11_street_8 : decode cX11_street 8 = .ok (.aload_n 0, 1) := by decide +kernel
theorem dX11_street_9 : decode cX11_street 9 = .ok (.iload_n 2, 1) := by decide +kernel
theorem dX11_street_10 : decode cX11_street 10 = .ok (.invokevirtual 146, 3) := by decide +kernel
theorem dX11_street_13 : decode cX11_street 13 = .ok (.ifCond .ne 5, 3) := by decide +kernel
theorem dX11_street_16 : decode cX11_street 16 = .ok (.iconst (-1), 1) := by decide +kernel
theorem dX11_street_17 : decode cX11_street 17 = .ok (.ireturn, 1) := by decide +kernel
theorem dX11_street_18 : decode cX11_street 18 = .ok (.aload_n 0, 1) := by decide +kernel
theorem dX11_street_19 : decode cX11_street 19 = .ok (.getfield 26, 3) := by decide +kernel
theorem dX11_street_22 : decode cX11_street 22 = .ok (.getfield 125, 3) := by decide +kernel
theorem dX11_street_25 : decode cX11_street 25 = .ok (.getfield 150, 3) := by decide +kernel
theorem dX11_street_28 : decode cX11_street 28 = .ok (.iload_n 1, 1) := by decide +kernel
theorem dX11_street_29 : decode cX11_street 29 = .ok (.aaload, 1) := by decide +kernel
theorem dX11_street_30 : decode cX11_street 30 = .ok (.iload_n 2, 1) := by decide +kernel
theorem dX11_street_31 : decode cX11_street 31 = .ok (.iaload, 1) := by decide +kernel
theorem dX11_street_32 : decode cX11_street 32 = .ok (.istore_n 3, 1) := by decide +kernel
theorem dX11_street_33 : decode cX11_street 33 = .ok (.iload_n 3, 1) := by decide +kernel
theorem dX11_street_34 : decode cX11_street 34 = .ok (.ifCond .le 7, 3) := by decide +kernel
theorem dX11_street_37 : decode cX11_street 37 = .ok (.iload_n 3, 1) := by decide +kernel
theorem dX11_street_38 : decode cX11_street 38 = .ok (.goto 5, 3) := by decide +kernel
theorem dX11_street_41 : decode cX11_street 41 = .ok (.bipush (-4), 2) := by decide +kernel
theorem dX11_street_43 : decode cX11_street 43 = .ok (.ireturn, 1) := by decide +kernel
theorem dX11_sign_0 : decode cX11_sign 0 = .ok (.aload_n 0, 1) := by decide +kernel
theorem dX11_sign_1 : decode cX11_sign 1 = .ok (.iload_n 1, 1) := by decide +kernel
theorem dX11_sign_2 : decode cX11_sign 2 = .ok (.invokevirtual 153, 3) := by decide +kernel
theorem dX11_sign_5 : decode cX11_sign 5 = .ok (.ifCond .ne 5, 3) := by decide +kernel
theorem dX11_sign_8 : decode cX11_sign 8 = .ok (.iconst (-1), 1) := by decide +kernel
theorem dX11_sign_9 : decode cX11_sign 9 = .ok (.ireturn, 1) := by decide +kernel
theorem dX11_sign_10 : decode cX11_sign 10 = .ok (.iload_n 2, 1) := by decide +kernel
theorem dX11_sign_11 : decode cX11_sign 11 = .ok (.tableswitch 64 0 2 #[25, 38, 51], 25) := by decide +kernel
theorem dX11_sign_36 : decode cX11_sign 36 = .ok (.aload_n 0, 1) := by decide +kernel
theorem dX11_sign_37 : decode cX11_sign 37 = .ok (.getfield 26, 3) := by decide +kernel
theorem dX11_sign_40 : decode cX11_sign 40 = .ok (.getfield 156, 3) := by decide +kernel
theorem dX11_sign_43 : decode cX11_sign 43 = .ok (.getfield 159, 3) := by decide +kernel
theorem dX11_sign_46 : decode cX11_sign 46 = .ok (.iload_n 1, 1) := by decide +kernel
theorem dX11_sign_47 : decode cX11_sign 47 = .ok (.iaload, 1) := by decide +kernel
theorem dX11_sign_48 : decode cX11_sign 48 = .ok (.ireturn, 1) := by decide +kernel
theorem dX11_sign_49 : decode cX11_sign 49 = .ok (.aload_n 0, 1) := by decide +kernel
theorem dX11_sign_50 : decode cX11_sign 50 = .ok (.getfield 26, 3) := by decide +kernel
theorem dX11_sign_53 : decode cX11_sign 53 = .ok (.getfield 156, 3) := by decide +kernel
theorem dX11_sign_56 : decode cX11_sign 56 = .ok (.getfield 161, 3) := by decide +kernel
theorem dX11_sign_59 : decode cX11_sign 59 = .ok (.iload_n 1, 1) := by decide +kernel
theorem dX11_sign_60 : decode cX11_sign 60 = .ok (.iaload, 1) := by decide +kernel
theorem dX11_sign_61 : decode cX11_sign 61 = .ok (.ireturn, 1) := by decide +kernel
theorem dX11_sign_62 : decode cX11_sign 62 = .ok (.aload_n 0, 1) := by decide +kernel
theorem dX11_sign_63 : decode cX11_sign 63 = .ok (.getfield 26, 3) := by decide +kernel
theorem dX11_sign_66 : decode cX11_sign 66 = .ok (.getfield 156, 3) := by decide +kernel
theorem dX11_sign_69 : decode cX11_sign 69 = .ok (.getfield 164, 3) := by decide +kernel
theorem dX11_sign_72 : decode cX11_sign 72 = .ok (.iload_n 1, 1) := by decide +kernel
theorem dX11_sign_73 : decode cX11_sign 73 = .ok (.iaload, 1) := by decide +kernel
theorem dX11_sign_74 : decode cX11_sign 74 = .ok (.ireturn, 1) := by decide +kernel
theorem dX11_sign_75 : decode cX11_sign 75 = .ok (.iconst (-1), 1) := by decide +kernel
theorem dX11_sign_76 : decode cX11_sign 76 = .ok (.ireturn, 1) := by decide +kernel
theorem dX11_walker_0 : decode cX11_walker 0 = .ok (.aload_n 0, 1) := by decide +kernel
theorem dX11_walker_1 : decode cX11_walker 1 = .ok (.iload_n 1, 1) := by decide +kernel
theorem dX11_walker_2 : decode cX11_walker 2 = .ok (.invokevirtual 167, 3) := by decide +kernel
theorem dX11_walker_5 : decode cX11_walker 5 = .ok (.ifCond .ne 5, 3) := by decide +kernel
theorem dX11_walker_8 : decode cX11_walker 8 = .ok (.iconst (-1), 1) := by decide +kernel
theorem dX11_walker_9 : decode cX11_walker 9 = .ok (.ireturn, 1) := by decide +kernel
theorem dX11_walker_10 : decode cX11_walker 10 = .ok (.iload_n 2, 1) := by decide +kernel
theorem dX11_walker_11 : decode cX11_walker 11 = .ok (.tableswitch 81 0 3 #[29, 42, 55, 68], 29) := by decide +kernel
theorem dX11_walker_40 : decode cX11_walker 40 = .ok (.aload_n 0, 1) := by decide +kernel
theorem dX11_walker_41 : decode cX11_walker 41 = .ok (.getfield 26, 3) := by decide +kernel
theorem dX11_walker_44 : decode cX11_walker 44 = .ok (.getfield 116, 3) := by decide +kernel
theorem dX11_walker_47 : decode cX11_walker 47 = .ok (.getfield 170, 3) := by decide +kernel
theorem dX11_walker_50 : decode cX11_walker 50 = .ok (.iload_n 1, 1) := by decide +kernel
theorem dX11_walker_51 : decode cX11_walker 51 = .ok (.iaload, 1) := by decide +kernel
theorem dX11_walker_52 : decode cX11_walker 52 = .ok (.ireturn, 1) := by decide +kernel
theorem dX11_walker_53 : decode cX11_walker 53 = .ok (.aload_n 0, 1) := by decide +kernel
theorem dX11_walker_54 : decode cX11_walker 54 = .ok (.getfield 26, 3) := by decide +kernel
theorem dX11_walker_57 : decode cX11_walker 57 = .ok (.getfield 116, 3) := by decide +kernel
theorem dX11_walker_60 : decode cX11_walker 60 = .ok (.getfield 173, 3) := by decide +kernel
theorem dX11_walker_63 : decode cX11_walker 63 = .ok (.iload_n 1, 1) := by decide +kernel
theorem dX11_walker_64 : decode cX11_walker 64 = .ok (.iaload, 1) := by decide +kernel
theorem dX11_walker_65 : decode cX11_walker 65 = .ok (.ireturn, 1) := by decide +kernel
theorem dX11_walker_66 : decode cX11_walker 66 = .ok (.aload_n 0, 1) := by decide +kernel
theorem dX11_walker_67 : decode cX11_walker 67 = .ok (.getfield 26, 3) := by decide +kernel
theorem dX11_walker_70 : decode cX11_walker 70 = .ok (.getfield 116, 3) := by decide +kernel
theorem dX11_walker_73 : decode cX11_walker 73 = .ok (.getfield 176, 3) := by decide +kernel
theorem dX11_walker_76 : decode cX11_walker 76 = .ok (.iload_n 1, 1) := by decide +kernel
theorem dX11_walker_77 : decode cX11_walker 77 = .ok (.iaload, 1) := by decide +kernel
theorem dX11_walker_78 : decode cX11_walker 78 = .ok (.ireturn, 1) := by decide +kernel
theorem dX11_walker_79 : decode cX11_walker 79 = .ok (.aload_n 0, 1) := by decide +kernel
theorem dX11_walker_80 : decode cX11_walker 80 = .ok (.getfield 26, 3) := by decide +kernel
theorem dX11_walker_83 : decode cX11_walker 83 = .ok (.getfield 116, 3) := by decide +kernel
theorem dX11_walker_86 : decode cX11_walker 86 = .ok (.getfield 177, 3) := by decide +kernel
theorem dX11_walker_89 : decode cX11_walker 89 = .ok (.iload_n 1, 1) := by decide +kernel
end
section
theorem dX11_walker_90 : decode cX11_walker 90 = .ok (.iaload, 1) := by decide +kernel
theorem dX11_walker_91 : decode cX11_walker 91 = .ok (.ireturn, 1) := by decide +kernel
theorem dX11_walker_92 : decode cX11_walker 92 = .ok (.iconst (-1), 1) := by decide +kernel
theorem dX11_walker_93 : decode cX11_walker 93 = .ok (.ireturn, 1) := by decide +kernel
theorem dX11_walk_0 : decode cX11_walk 0 = .ok (.aload_n 0, 1) := by decide +kernel
theorem dX11_walk_1 : decode cX11_walk 1 = .ok (.iload_n 1, 1) := by decide +kernel
theorem dX11_walk_2 : decode cX11_walk 2 = .ok (.invokevirtual 167, 3) := by decide +kernel
theorem dX11_walk_5 : decode cX11_walk 5 = .ok (.ifCond .eq 12, 3) := by decide +kernel
theorem dX11_walk_8 : decode cX11_walk 8 = .ok (.iload_n 2, 1) := by decide +kernel
theorem dX11_walk_9 : decode cX11_walk 9 = .ok (.bipush 31, 2) := by decide +kernel
theorem dX11_walk_11 : decode cX11_walk 11 = .ok (.invokestatic 180, 3) := by decide +kernel
theorem dX11_walk_14 : decode cX11_walk 14 = .ok (.ifCond .ne 5, 3) := by decide +kernel
theorem dX11_walk_17 : decode cX11_walk 17 = .ok (.iconst (-1), 1) := by decide +kernel
theorem dX11_walk_18 : decode cX11_walk 18 = .ok (.ireturn, 1) := by decide +kernel
theorem dX11_walk_19 : decode cX11_walk 19 = .ok (.aload_n 0, 1) := by decide +kernel
theorem dX11_walk_20 : decode cX11_walk 20 = .ok (.iload_n 1, 1) := by decide +kernel
theorem dX11_walk_21 : decode cX11_walk 21 = .ok (.invokevirtual 184, 3) := by decide +kernel
theorem dX11_walk_24 : decode cX11_walk 24 = .ok (.aload_n 0, 1) := by decide +kernel
theorem dX11_walk_25 : decode cX11_walk 25 = .ok (.getfield 36, 3) := by decide +kernel
theorem dX11_walk_28 : decode cX11_walk 28 = .ok (.iload_n 2, 1) := by decide +kernel
theorem dX11_walk_29 : decode cX11_walk 29 = .ok (.invokevirtual 187, 3) := by decide +kernel
theorem dX11_walk_32 : decode cX11_walk 32 = .ok (.ireturn, 1) := by decide +kernel
theorem dX11_way_0 : decode cX11_way 0 = .ok (.aload_n 0, 1) := by decide +kernel
theorem dX11_way_1 : decode cX11_way 1 = .ok (.iload_n 1, 1) := by decide +kernel
theorem dX11_way_2 : decode cX11_way 2 = .ok (.invokevirtual 167, 3) := by decide +kernel
theorem dX11_way_5 : decode cX11_way 5 = .ok (.ifCond .eq 11, 3) := by decide +kernel
theorem dX11_way_8 : decode cX11_way 8 = .ok (.iload_n 2, 1) := by decide +kernel
theorem dX11_way_9 : decode cX11_way 9 = .ok (.iconst 5, 1) := by decide +kernel
theorem dX11_way_10 : decode cX11_way 10 = .ok (.invokestatic 180, 3) := by decide +kernel
theorem dX11_way_13 : decode cX11_way 13 = .ok (.ifCond .ne 5, 3) := by decide +kernel
theorem dX11_way_16 : decode cX11_way 16 = .ok (.iconst (-1), 1) := by decide +kernel
theorem dX11_way_17 : decode cX11_way 17 = .ok (.ireturn, 1) := by decide +kernel
theorem dX11_way_18 : decode cX11_way 18 = .ok (.aload_n 0, 1) := by decide +kernel
theorem dX11_way_19 : decode cX11_way 19 = .ok (.iload_n 1, 1) := by decide +kernel
theorem dX11_way_20 : decode cX11_way 20 = .ok (.invokevirtual 184, 3) := by decide +kernel
theorem dX11_way_23 : decode cX11_way 23 = .ok (.iload_n 2, 1) := by decide +kernel
theorem dX11_way_24 : decode cX11_way 24 = .ok (.tableswitch 64 0 3 #[32, 40, 48, 56], 32) := by decide +kernel
theorem dX11_way_56 : decode cX11_way 56 = .ok (.aload_n 0, 1) := by decide +kernel
theorem dX11_way_57 : decode cX11_way 57 = .ok (.getfield 36, 3) := by decide +kernel
theorem dX11_way_60 : decode cX11_way 60 = .ok (.getfield 191, 3) := by decide +kernel
theorem dX11_way_63 : decode cX11_way 63 = .ok (.ireturn, 1) := by decide +kernel
theorem dX11_way_64 : decode cX11_way 64 = .ok (.aload_n 0, 1) := by decide +kernel
theorem dX11_way_65 : decode cX11_way 65 = .ok (.getfield 36, 3) := by decide +kernel
theorem dX11_way_68 : decode cX11_way 68 = .ok (.getfield 194, 3) := by decide +kernel
theorem dX11_way_71 : decode cX11_way 71 = .ok (.ireturn, 1) := by decide +kernel
theorem dX11_way_72 : decode cX11_way 72 = .ok (.aload_n 0, 1) := by decide +kernel
theorem dX11_way_73 : decode cX11_way 73 = .ok (.getfield 36, 3) := by decide +kernel
theorem dX11_way_76 : decode cX11_way 76 = .ok (.getfield 197, 3) := by decide +kernel
theorem dX11_way_79 : decode cX11_way 79 = .ok (.ireturn, 1) := by decide +kernel
theorem dX11_way_80 : decode cX11_way 80 = .ok (.aload_n 0, 1) := by decide +kernel
theorem dX11_way_81 : decode cX11_way 81 = .ok (.getfield 36, 3) := by decide +kernel
theorem dX11_way_84 : decode cX11_way 84 = .ok (.getfield 200, 3) := by decide +kernel
theorem dX11_way_87 : decode cX11_way 87 = .ok (.ireturn, 1) := by decide +kernel
theorem dX11_way_88 : decode cX11_way 88 = .ok (.aload_n 0, 1) := by decide +kernel
theorem dX11_way_89 : decode cX11_way 89 = .ok (.getfield 36, 3) := by decide +kernel
theorem dX11_way_92 : decode cX11_way 92 = .ok (.getfield 203, 3) := by decide +kernel
theorem dX11_way_95 : decode cX11_way 95 = .ok (.ifCond .eq 7, 3) := by decide +kernel
theorem dX11_way_98 : decode cX11_way 98 = .ok (.iconst 1, 1) := by decide +kernel
theorem dX11_way_99 : decode cX11_way 99 = .ok (.goto 4, 3) := by decide +kernel
theorem dX11_way_102 : decode cX11_way 102 = .ok (.iconst 0, 1) := by decide +kernel
theorem dX11_way_103 : decode cX11_way 103 = .ok (.ireturn, 1) := by decide +kernel
theorem dX11_round_0 : decode cX11_round 0 = .ok (.aload_n 0, 1) := by decide +kernel
theorem dX11_round_1 : decode cX11_round 1 = .ok (.iload_n 1, 1) := by decide +kernel
theorem dX11_round_2 : decode cX11_round 2 = .ok (.invokevirtual 167, 3) := by decide +kernel
theorem dX11_round_5 : decode cX11_round 5 = .ok (.ifCond .ne 5, 3) := by decide +kernel
theorem dX11_round_8 : decode cX11_round 8 = .ok (.iconst (-1), 1) := by decide +kernel
theorem dX11_round_9 : decode cX11_round 9 = .ok (.ireturn, 1) := by decide +kernel
theorem dX11_round_10 : decode cX11_round 10 = .ok (.aload_n 0, 1) := by decide +kernel
theorem dX11_round_11 : decode cX11_round 11 = .ok (.iload_n 1, 1) := by decide +kernel
theorem dX11_round_12 : decode cX11_round 12 = .ok (.invokevirtual 184, 3) := by decide +kernel
theorem dX11_round_15 : decode cX11_round 15 = .ok (.aload_n 0, 1) := by decide +kernel
theorem dX11_round_16 : decode cX11_round 16 = .ok (.getfield 36, 3) := by decide +kernel
theorem dX11_round_19 : decode cX11_round 19 = .ok (.invokevirtual 207, 3) := by decide +kernel
theorem dX11_round_22 : decode cX11_round 22 = .ok (.ireturn, 1) := by decide +kernel
theorem dX11_tax_0 : decode cX11_tax 0 = .ok (.aload_n 0, 1) := by decide +kernel
theorem dX11_tax_1 : decode cX11_tax 1 = .ok (.aload_n 0, 1) := by decide +kernel
theorem dX11_tax_2 : decode cX11_tax 2 = .ok (.getfield 26, 3) := by decide +kernel
theorem dX11_tax_5 : decode cX11_tax 5 = .ok (.getfield 156, 3) := by decide +kernel
theorem dX11_tax_8 : decode cX11_tax 8 = .ok (.invokevirtual 210, 3) := by decide +kernel
theorem dX11_tax_11 : decode cX11_tax 11 = .ok (.ireturn, 1) := by decide +kernel
theorem dX11_put_0 : decode cX11_put 0 = .ok (.aload_n 0, 1) := by decide +kernel
theorem dX11_put_1 : decode cX11_put 1 = .ok (.iload_n 1, 1) := by decide +kernel
theorem dX11_put_2 : decode cX11_put 2 = .ok (.invokevirtual 146, 3) := by decide +kernel
theorem dX11_put_5 : decode cX11_put 5 = .ok (.ifCond .eq 19, 3) := by decide +kernel
theorem dX11_put_8 : decode cX11_put 8 = .ok (.aload_n 0, 1) := by decide +kernel
theorem dX11_put_9 : decode cX11_put 9 = .ok (.iload_n 2, 1) := by decide +kernel
theorem dX11_put_10 : decode cX11_put 10 = .ok (.invokevirtual 146, 3) := by decide +kernel
theorem dX11_put_13 : decode cX11_put 13 = .ok (.ifCond .eq 11, 3) := by decide +kernel
theorem dX11_put_16 : decode cX11_put 16 = .ok (.aload_n 0, 1) := by decide +kernel
theorem dX11_put_17 : decode cX11_put 17 = .ok (.iload_n 3, 1) := by decide +kernel
theorem dX11_put_18 : decode cX11_put 18 = .ok (.invokevirtual 146, 3) := by decide +kernel
theorem dX11_put_21 : decode cX11_put 21 = .ok (.ifCond .ne 5, 3) := by decide +kernel
theorem dX11_put_24 : decode cX11_put 24 = .ok (.iconst (-1), 1) := by decide +kernel
theorem dX11_put_25 : decode cX11_put 25 = .ok (.ireturn, 1) := by decide +kernel
theorem dX11_put_26 : decode cX11_put 26 = .ok (.aload_n 0, 1) := by decide +kernel
theorem dX11_put_27 : decode cX11_put 27 = .ok (.getfield 26, 3) := by decide +kernel
theorem dX11_put_30 : decode cX11_put 30 = .ok (.getfield 156, 3) := by decide +kernel
theorem dX11_put_33 : decode cX11_put 33 = .ok (.getfield 214, 3) := by decide +kernel
theorem dX11_put_36 : decode cX11_put 36 = .ok (.bipush 8, 2) := by decide +kernel
theorem dX11_put_38 : decode cX11_put 38 = .ok (.if_icmp .lt 6, 3) := by decide +kernel
theorem dX11_put_41 : decode cX11_put 41 = .ok (.bipush (-3), 2) := by decide +kernel
theorem dX11_put_43 : decode cX11_put 43 = .ok (.ireturn, 1) := by decide +kernel
theorem dX11_put_44 : decode cX11_put 44 = .ok (.aload_n 0, 1) := by decide +kernel
theorem dX11_put_45 : decode cX11_put 45 = .ok (.getfield 50, 3) := by decide +kernel
theorem dX11_put_48 : decode cX11_put 48 = .ok (.iconst 0, 1) := by decide +kernel
theorem dX11_put_49 : decode cX11_put 49 = .ok (.aload_n 0, 1) := by decide +kernel
theorem dX11_put_50 : decode cX11_put 50 = .ok (.getfield 26, 3) := by decide +kernel
theorem dX11_put_53 : decode cX11_put 53 = .ok (.getfield 156, 3) := by decide +kernel
theorem dX11_put_56 : decode cX11_put 56 = .ok (.getfield 214, 3) := by decide +kernel
theorem dX11_put_59 : decode cX11_put 59 = .ok (.iload_n 1, 1) := by decide +kernel
theorem dX11_put_60 : decode cX11_put 60 = .ok (.iload_n 2, 1) := by decide +kernel
theorem dX11_put_61 : decode cX11_put 61 = .ok (.iload_n 3, 1) := by decide +kernel
theorem dX11_put_62 : decode cX11_put 62 = .ok (.invokevirtual 215, 3) := by decide +kernel
theorem dX11_put_65 : decode cX11_put 65 = .ok (.aload_n 0, 1) := by decide +kernel
theorem dX11_put_66 : decode cX11_put 66 = .ok (.getfield 26, 3) := by decide +kernel
theorem dX11_put_69 : decode cX11_put 69 = .ok (.getfield 156, 3) := by decide +kernel
theorem dX11_put_72 : decode cX11_put 72 = .ok (.aload_n 0, 1) := by decide +kernel
theorem dX11_put_73 : decode cX11_put 73 = .ok (.getfield 26, 3) := by decide +kernel
theorem dX11_put_76 : decode cX11_put 76 = .ok (.getfield 156, 3) := by decide +kernel
theorem dX11_put_79 : decode cX11_put 79 = .ok (.getfield 214, 3) := by decide +kernel
theorem dX11_put_82 : decode cX11_put 82 = .ok (.iload_n 1, 1) := by decide +kernel
theorem dX11_put_83 : decode cX11_put 83 = .ok (.iload_n 2, 1) := by decide +kernel
theorem dX11_put_84 : decode cX11_put 84 = .ok (.iload_n 3, 1) := by decide +kernel
theorem dX11_put_85 : decode cX11_put 85 = .ok (.invokevirtual 219, 3) := by decide +kernel
theorem dX11_put_88 : decode cX11_put 88 = .ok (.aload_n 0, 1) := by decide +kernel
theorem dX11_put_89 : decode cX11_put 89 = .ok (.getfield 26, 3) := by decide +kernel
theorem dX11_put_92 : decode cX11_put 92 = .ok (.getfield 156, 3) := by decide +kernel
theorem dX11_put_95 : decode cX11_put 95 = .ok (.getfield 214, 3) := by decide +kernel
theorem dX11_put_98 : decode cX11_put 98 = .ok (.ireturn, 1) := by decide +kernel
theorem dX11_take_0 : decode cX11_take 0 = .ok (.aload_n 0, 1) := by decide +kernel
theorem dX11_take_1 : decode cX11_take 1 = .ok (.iload_n 1, 1) := by decide +kernel
theorem dX11_take_2 : decode cX11_take 2 = .ok (.invokevirtual 153, 3) := by decide +kernel
theorem dX11_take_5 : decode cX11_take 5 = .ok (.ifCond .ne 5, 3) := by decide +kernel
theorem dX11_take_8 : decode cX11_take 8 = .ok (.iconst (-1), 1) := by decide +kernel
theorem dX11_take_9 : decode cX11_take 9 = .ok (.ireturn, 1) := by decide +kernel
theorem dX11_take_10 : decode cX11_take 10 = .ok (.aload_n 0, 1) := by decide +kernel
theorem dX11_take_11 : decode cX11_take 11 = .ok (.getfield 26, 3) := by decide +kernel
theorem dX11_take_14 : decode cX11_take 14 = .ok (.getfield 156, 3) := by decide +kernel
theorem dX11_take_17 : decode cX11_take 17 = .ok (.astore_n 2, 1) := by decide +kernel
theorem dX11_take_18 : decode cX11_take 18 = .ok (.aload_n 0, 1) := by decide +kernel
theorem dX11_take_19 : decode cX11_take 19 = .ok (.getfield 50, 3) := by decide +kernel
theorem dX11_take_22 : decode cX11_take 22 = .ok (.iconst 1, 1) := by decide +kernel
theorem dX11_take_23 : decode cX11_take 23 = .ok (.iload_n 1, 1) := by decide +kernel
theorem dX11_take_24 : decode cX11_take 24 = .ok (.aload_n 2, 1) := by decide +kernel
theorem dX11_take_25 : decode cX11_take 25 = .ok (.getfield 159, 3) := by decide +kernel
theorem dX11_take_28 : decode cX11_take 28 = .ok (.iload_n 1, 1) := by decide +kernel
theorem dX11_take_29 : decode cX11_take 29 = .ok (.iaload, 1) := by decide +kernel
theorem dX11_take_30 : decode cX11_take 30 = .ok (.aload_n 2, 1) := by decide +kernel
theorem dX11_take_31 : decode cX11_take 31 = .ok (.getfield 161, 3) := by decide +kernel
theorem dX11_take_34 : decode cX11_take 34 = .ok (.iload_n 1, 1) := by decide +kernel
theorem dX11_take_35 : decode cX11_take 35 = .ok (.iaload, 1) := by decide +kernel
theorem dX11_take_36 : decode cX11_take 36 = .ok (.aload_n 2, 1) := by decide +kernel
theorem dX11_take_37 : decode cX11_take 37 = .ok (.getfield 164, 3) := by decide +kernel
theorem dX11_take_40 : decode cX11_take 40 = .ok (.iload_n 1, 1) := by decide +kernel
theorem dX11_take_41 : decode cX11_take 41 = .ok (.iaload, 1) := by decide +kernel
theorem dX11_take_42 : decode cX11_take 42 = .ok (.invokevirtual 215, 3) := by decide +kernel
theorem dX11_take_45 : decode cX11_take 45 = .ok (.aload_n 2, 1) := by decide +kernel
theorem dX11_take_46 : decode cX11_take 46 = .ok (.iload_n 1, 1) := by decide +kernel
theorem dX11_take_47 : decode cX11_take 47 = .ok (.invokevirtual 223, 3) := by decide +kernel
theorem dX11_take_50 : decode cX11_take 50 = .ok (.aload_n 2, 1) := by decide +kernel
theorem dX11_take_51 : decode cX11_take 51 = .ok (.getfield 214, 3) := by decide +kernel
theorem dX11_take_54 : decode cX11_take 54 = .ok (.ireturn, 1) := by decide +kernel
theorem dX11_tell_0 : decode cX11_tell 0 = .ok (.aload_n 0, 1) := by decide +kernel
theorem dX11_tell_1 : decode cX11_tell 1 = .ok (.iload_n 1, 1) := by decide +kernel
theorem dX11_tell_2 : decode cX11_tell 2 = .ok (.invokevirtual 167, 3) := by decide +kernel
theorem dX11_tell_5 : decode cX11_tell 5 = .ok (.ifCond .eq 11, 3) := by decide +kernel
theorem dX11_tell_8 : decode cX11_tell 8 = .ok (.aload_n 0, 1) := by decide +kernel
theorem dX11_tell_9 : decode cX11_tell 9 = .ok (.iload_n 2, 1) := by decide +kernel
theorem dX11_tell_10 : decode cX11_tell 10 = .ok (.invokevirtual 146, 3) := by decide +kernel
theorem dX11_tell_13 : decode cX11_tell 13 = .ok (.ifCond .ne 5, 3) := by decide +kernel
theorem dX11_tell_16 : decode cX11_tell 16 = .ok (.iconst (-1), 1) := by decide +kernel
theorem dX11_tell_17 : decode cX11_tell 17 = .ok (.ireturn, 1) := by decide +kernel
theorem dX11_tell_18 : decode cX11_tell 18 = .ok (.aload_n 0, 1) := by decide +kernel
theorem dX11_tell_19 : decode cX11_tell 19 = .ok (.getfield 26, 3) := by decide +kernel
theorem dX11_tell_22 : decode cX11_tell 22 = .ok (.getfield 116, 3) := by decide +kernel
theorem dX11_tell_25 : decode cX11_tell 25 = .ok (.getfield 177, 3) := by decide +kernel
theorem dX11_tell_28 : decode cX11_tell 28 = .ok (.iload_n 1, 1) := by decide +kernel
theorem dX11_tell_29 : decode cX11_tell 29 = .ok (.iaload, 1) := by decide +kernel
theorem dX11_tell_30 : decode cX11_tell 30 = .ok (.istore_n 3, 1) := by decide +kernel
theorem dX11_tell_31 : decode cX11_tell 31 = .ok (.aload_n 0, 1) := by decide +kernel
theorem dX11_tell_32 : decode cX11_tell 32 = .ok (.getfield 50, 3) := by decide +kernel
theorem dX11_tell_35 : decode cX11_tell 35 = .ok (.iconst 2, 1) := by decide +kernel
theorem dX11_tell_36 : decode cX11_tell 36 = .ok (.iload_n 1, 1) := by decide +kernel
theorem dX11_tell_37 : decode cX11_tell 37 = .ok (.iconst (-1), 1) := by decide +kernel
theorem dX11_tell_38 : decode cX11_tell 38 = .ok (.iload_n 3, 1) := by decide +kernel
theorem dX11_tell_39 : decode cX11_tell 39 = .ok (.iconst (-1), 1) := by decide +kernel
theorem dX11_tell_40 : decode cX11_tell 40 = .ok (.invokevirtual 215, 3) := by decide +kernel
theorem dX11_tell_43 : decode cX11_tell 43 = .ok (.aload_n 0, 1) := by decide +kernel
theorem dX11_tell_44 : decode cX11_tell 44 = .ok (.getfield 26, 3) := by decide +kernel
theorem dX11_tell_47 : decode cX11_tell 47 = .ok (.getfield 116, 3) := by decide +kernel
theorem dX11_tell_50 : decode cX11_tell 50 = .ok (.getfield 177, 3) := by decide +kernel
theorem dX11_tell_53 : decode cX11_tell 53 = .ok (.iload_n 1, 1) := by decide +kernel
theorem dX11_tell_54 : decode cX11_tell 54 = .ok (.iload_n 2, 1) := by decide +kernel
theorem dX11_tell_55 : decode cX11_tell 55 = .ok (.iastore, 1) := by decide +kernel
theorem dX11_tell_56 : decode cX11_tell 56 = .ok (.iload_n 3, 1) := by decide +kernel
theorem dX11_tell_57 : decode cX11_tell 57 = .ok (.ireturn, 1) := by decide +kernel
theorem dX11_undo_0 : decode cX11_undo 0 = .ok (.aload_n 0, 1) := by decide +kernel
theorem dX11_undo_1 : decode cX11_undo 1 = .ok (.getfield 50, 3) := by decide +kernel
theorem dX11_undo_4 : decode cX11_undo 4 = .ok (.getfield 226, 3) := by decide +kernel
theorem dX11_undo_7 : decode cX11_undo 7 = .ok (.ifCond .ne 6, 3) := by decide +kernel
theorem dX11_undo_10 : decode cX11_undo 10 = .ok (.bipush (-2), 2) := by decide +kernel
theorem dX11_undo_12 : decode cX11_undo 12 = .ok (.ireturn, 1) := by decide +kernel
theorem dX11_undo_13 : decode cX11_undo 13 = .ok (.aload_n 0, 1) := by decide +kernel
theorem dX11_undo_14 : decode cX11_undo 14 = .ok (.getfield 50, 3) := by decide +kernel
theorem dX11_undo_17 : decode cX11_undo 17 = .ok (.aload_n 0, 1) := by decide +kernel
theorem dX11_undo_18 : decode cX11_undo 18 = .ok (.getfield 26, 3) := by decide +kernel
theorem dX11_undo_21 : decode cX11_undo 21 = .ok (.invokevirtual 227, 3) := by decide +kernel
theorem dX11_undo_24 : decode cX11_undo 24 = .ok (.aload_n 0, 1) := by decide +kernel
theorem dX11_undo_25 : decode cX11_undo 25 = .ok (.getfield 50, 3) := by decide +kernel
theorem dX11_undo_28 : decode cX11_undo 28 = .ok (.getfield 226, 3) := by decide +kernel
theorem dX11_undo_31 : decode cX11_undo 31 = .ok (.ireturn, 1) := by decide +kernel
theorem dX11_lies_0 : decode cX11_lies 0 = .ok (.aload_n 0, 1) := by decide +kernel
theorem dX11_lies_1 : decode cX11_lies 1 = .ok (.getfield 26, 3) := by decide +kernel
theorem dX11_lies_4 : decode cX11_lies 4 = .ok (.getfield 156, 3) := by decide +kernel
theorem dX11_lies_7 : decode cX11_lies 7 = .ok (.astore_n 1, 1) := by decide +kernel
theorem dX11_lies_8 : decode cX11_lies 8 = .ok (.iconst 0, 1) := by decide +kernel
theorem dX11_lies_9 : decode cX11_lies 9 = .ok (.istore_n 2, 1) := by decide +kernel
theorem dX11_lies_10 : decode cX11_lies 10 = .ok (.iconst 0, 1) := by decide +kernel
theorem dX11_lies_11 : decode cX11_lies 11 = .ok (.istore_n 3, 1) := by decide +kernel
theorem dX11_lies_12 : decode cX11_lies 12 = .ok (.iload_n 3, 1) := by decide +kernel
theorem dX11_lies_13 : decode cX11_lies 13 = .ok (.aload_n 1, 1) := by decide +kernel
theorem dX11_lies_14 : decode cX11_lies 14 = .ok (.getfield 214, 3) := by decide +kernel
theorem dX11_lies_17 : decode cX11_lies 17 = .ok (.if_icmp .ge 46, 3) := by decide +kernel
theorem dX11_lies_20 : decode cX11_lies 20 = .ok (.aload_n 0, 1) := by decide +kernel
theorem dX11_lies_21 : decode cX11_lies 21 = .ok (.getfield 26, 3) := by decide +kernel
theorem dX11_lies_24 : decode cX11_lies 24 = .ok (.getfield 125, 3) := by decide +kernel
theorem dX11_lies_27 : decode cX11_lies 27 = .ok (.aload_n 1, 1) := by decide +kernel
theorem dX11_lies_28 : decode cX11_lies 28 = .ok (.getfield 159, 3) := by decide +kernel
theorem dX11_lies_31 : decode cX11_lies 31 = .ok (.iload_n 3, 1) := by decide +kernel
theorem dX11_lies_32 : decode cX11_lies 32 = .ok (.iaload, 1) := by decide +kernel
theorem dX11_lies_33 : decode cX11_lies 33 = .ok (.aload_n 1, 1) := by decide +kernel
theorem dX11_lies_34 : decode cX11_lies 34 = .ok (.getfield 164, 3) := by decide +kernel
theorem dX11_lies_37 : decode cX11_lies 37 = .ok (.iload_n 3, 1) := by decide +kernel
theorem dX11_lies_38 : decode cX11_lies 38 = .ok (.iaload, 1) := by decide +kernel
theorem dX11_lies_39 : decode cX11_lies 39 = .ok (.aload_n 1, 1) := by decide +kernel
theorem dX11_lies_40 : decode cX11_lies 40 = .ok (.getfield 161, 3) := by decide +kernel
theorem dX11_lies_43 : decode cX11_lies 43 = .ok (.iload_n 3, 1) := by decide +kernel
theorem dX11_lies_44 : decode cX11_lies 44 = .ok (.iaload, 1) := by decide +kernel
theorem dX11_lies_45 : decode cX11_lies 45 = .ok (.invokevirtual 231, 3) := by decide +kernel
theorem dX11_lies_48 : decode cX11_lies 48 = .ok (.ifCond .ne 9, 3) := by decide +kernel
theorem dX11_lies_51 : decode cX11_lies 51 = .ok (.iload_n 2, 1) := by decide +kernel
theorem dX11_lies_52 : decode cX11_lies 52 = .ok (.iconst 1, 1) := by decide +kernel
theorem dX11_lies_53 : decode cX11_lies 53 = .ok (.iload_n 3, 1) := by decide +kernel
theorem dX11_lies_54 : decode cX11_lies 54 = .ok (.ishl, 1) := by decide +kernel
theorem dX11_lies_55 : decode cX11_lies 55 = .ok (.ior, 1) := by decide +kernel
theorem dX11_lies_56 : decode cX11_lies 56 = .ok (.istore_n 2, 1) := by decide +kernel
theorem dX11_lies_57 : decode cX11_lies 57 = .ok (.iinc 3 1, 3) := by decide +kernel
theorem dX11_lies_60 : decode cX11_lies 60 = .ok (.goto (-48), 3) := by decide +kernel
theorem dX11_lies_63 : decode cX11_lies 63 = .ok (.iload_n 2, 1) := by decide +kernel
theorem dX11_lies_64 : decode cX11_lies 64 = .ok (.ireturn, 1) := by decide +kernel
theorem dX11_lure_0 : decode cX11_lure 0 = .ok (.iload_n 1, 1) := by decide +kernel
theorem dX11_lure_1 : decode cX11_lure 1 = .ok (.iconst 2, 1) := by decide +kernel
theorem dX11_lure_2 : decode cX11_lure 2 = .ok (.invokestatic 180, 3) := by decide +kernel
theorem dX11_lure_5 : decode cX11_lure 5 = .ok (.ifCond .ne 5, 3) := by decide +kernel
theorem dX11_lure_8 : decode cX11_lure 8 = .ok (.iconst (-1), 1) := by decide +kernel
theorem dX11_lure_9 : decode cX11_lure 9 = .ok (.ireturn, 1) := by decide +kernel
theorem dX11_lure_10 : decode cX11_lure 10 = .ok (.aload_n 0, 1) := by decide +kernel
theorem dX11_lure_11 : decode cX11_lure 11 = .ok (.getfield 71, 3) := by decide +kernel
theorem dX11_lure_14 : decode cX11_lure 14 = .ok (.invokevirtual 235, 3) := by decide +kernel
theorem dX11_lure_17 : decode cX11_lure 17 = .ok (.aload_n 0, 1) := by decide +kernel
theorem dX11_lure_18 : decode cX11_lure 18 = .ok (.aload_n 0, 1) := by decide +kernel
theorem dX11_lure_19 : decode cX11_lure 19 = .ok (.getfield 26, 3) := by decide +kernel
theorem dX11_lure_22 : decode cX11_lure 22 = .ok (.getfield 156, 3) := by decide +kernel
theorem dX11_lure_25 : decode cX11_lure 25 = .ok (.invokevirtual 210, 3) := by decide +kernel
theorem dX11_lure_28 : decode cX11_lure 28 = .ok (.istore_n 2, 1) := by decide +kernel
theorem dX11_lure_29 : decode cX11_lure 29 = .ok (.aload_n 0, 1) := by decide +kernel
theorem dX11_lure_30 : decode cX11_lure 30 = .ok (.getfield 43, 3) := by decide +kernel
theorem dX11_lure_33 : decode cX11_lure 33 = .ok (.aload_n 0, 1) := by decide +kernel
theorem dX11_lure_34 : decode cX11_lure 34 = .ok (.getfield 26, 3) := by decide +kernel
theorem dX11_lure_37 : decode cX11_lure 37 = .ok (.getfield 156, 3) := by decide +kernel
theorem dX11_lure_40 : decode cX11_lure 40 = .ok (.invokevirtual 236, 3) := by decide +kernel
theorem dX11_lure_43 : decode cX11_lure 43 = .ok (.iconst 0, 1) := by decide +kernel
theorem dX11_lure_44 : decode cX11_lure 44 = .ok (.istore_n 3, 1) := by decide +kernel
theorem dX11_lure_45 : decode cX11_lure 45 = .ok (.iload_n 3, 1) := by decide +kernel
theorem dX11_lure_46 : decode cX11_lure 46 = .ok (.aload_n 0, 1) := by decide +kernel
theorem dX11_lure_47 : decode cX11_lure 47 = .ok (.getfield 26, 3) := by decide +kernel
theorem dX11_lure_50 : decode cX11_lure 50 = .ok (.getfield 125, 3) := by decide +kernel
theorem dX11_lure_53 : decode cX11_lure 53 = .ok (.getfield 143, 3) := by decide +kernel
theorem dX11_lure_56 : decode cX11_lure 56 = .ok (.if_icmp .ge 62, 3) := by decide +kernel
theorem dX11_lure_59 : decode cX11_lure 59 = .ok (.iconst 0, 1) := by decide +kernel
theorem dX11_lure_60 : decode cX11_lure 60 = .ok (.istore 4, 2) := by decide +kernel
theorem dX11_lure_62 : decode cX11_lure 62 = .ok (.iload 4, 2) := by decide +kernel
theorem dX11_lure_64 : decode cX11_lure 64 = .ok (.aload_n 0, 1) := by decide +kernel
theorem dX11_lure_65 : decode cX11_lure 65 = .ok (.getfield 26, 3) := by decide +kernel
theorem dX11_lure_68 : decode cX11_lure 68 = .ok (.getfield 125, 3) := by decide +kernel
theorem dX11_lure_71 : decode cX11_lure 71 = .ok (.getfield 143, 3) := by decide +kernel
theorem dX11_lure_74 : decode cX11_lure 74 = .ok (.if_icmp .ge 38, 3) := by decide +kernel
theorem dX11_lure_77 : decode cX11_lure 77 = .ok (.iload_n 3, 1) := by decide +kernel
theorem dX11_lure_78 : decode cX11_lure 78 = .ok (.iload 4, 2) := by decide +kernel
theorem dX11_lure_80 : decode cX11_lure 80 = .ok (.if_icmp .eq 26, 3) := by decide +kernel
theorem dX11_lure_83 : decode cX11_lure 83 = .ok (.aload_n 0, 1) := by decide +kernel
theorem dX11_lure_84 : decode cX11_lure 84 = .ok (.getfield 26, 3) := by decide +kernel
theorem dX11_lure_87 : decode cX11_lure 87 = .ok (.getfield 116, 3) := by decide +kernel
theorem dX11_lure_90 : decode cX11_lure 90 = .ok (.iload 4, 2) := by decide +kernel
theorem dX11_lure_92 : decode cX11_lure 92 = .ok (.invokevirtual 240, 3) := by decide +kernel
theorem dX11_lure_95 : decode cX11_lure 95 = .ok (.ifCond .eq 11, 3) := by decide +kernel
theorem dX11_lure_98 : decode cX11_lure 98 = .ok (.aload_n 0, 1) := by decide +kernel
theorem dX11_lure_99 : decode cX11_lure 99 = .ok (.iload_n 3, 1) := by decide +kernel
theorem dX11_lure_100 : decode cX11_lure 100 = .ok (.iload 4, 2) := by decide +kernel
theorem dX11_lure_102 : decode cX11_lure 102 = .ok (.iload_n 2, 1) := by decide +kernel
theorem dX11_lure_103 : decode cX11_lure 103 = .ok (.invokevirtual 243, 3) := by decide +kernel
theorem dX11_lure_106 : decode cX11_lure 106 = .ok (.iinc 4 1, 3) := by decide +kernel
theorem dX11_lure_109 : decode cX11_lure 109 = .ok (.goto (-47), 3) := by decide +kernel
theorem dX11_lure_112 : decode cX11_lure 112 = .ok (.iinc 3 1, 3) := by decide +kernel
theorem dX11_lure_115 : decode cX11_lure 115 = .ok (.goto (-70), 3) := by decide +kernel
theorem dX11_lure_118 : decode cX11_lure 118 = .ok (.aload_n 0, 1) := by decide +kernel
theorem dX11_lure_119 : decode cX11_lure 119 = .ok (.getfield 71, 3) := by decide +kernel
theorem dX11_lure_122 : decode cX11_lure 122 = .ok (.iload_n 1, 1) := by decide +kernel
theorem dX11_lure_123 : decode cX11_lure 123 = .ok (.invokevirtual 247, 3) := by decide +kernel
theorem dX11_lure_126 : decode cX11_lure 126 = .ok (.ireturn, 1) := by decide +kernel
theorem dX11_mend_0 : decode cX11_mend 0 = .ok (.iload_n 1, 1) := by decide +kernel
theorem dX11_mend_1 : decode cX11_mend 1 = .ok (.iconst 2, 1) := by decide +kernel
theorem dX11_mend_2 : decode cX11_mend 2 = .ok (.invokestatic 180, 3) := by decide +kernel
theorem dX11_mend_5 : decode cX11_mend 5 = .ok (.ifCond .ne 5, 3) := by decide +kernel
theorem dX11_mend_8 : decode cX11_mend 8 = .ok (.iconst (-1), 1) := by decide +kernel
theorem dX11_mend_9 : decode cX11_mend 9 = .ok (.ireturn, 1) := by decide +kernel
theorem dX11_mend_10 : decode cX11_mend 10 = .ok (.aload_n 0, 1) := by decide +kernel
theorem dX11_mend_11 : decode cX11_mend 11 = .ok (.getfield 71, 3) := by decide +kernel
theorem dX11_mend_14 : decode cX11_mend 14 = .ok (.invokevirtual 235, 3) := by decide +kernel
theorem dX11_mend_17 : decode cX11_mend 17 = .ok (.iconst 0, 1) := by decide +kernel
theorem dX11_mend_18 : decode cX11_mend 18 = .ok (.istore_n 2, 1) := by decide +kernel
theorem dX11_mend_19 : decode cX11_mend 19 = .ok (.iload_n 2, 1) := by decide +kernel
theorem dX11_mend_20 : decode cX11_mend 20 = .ok (.aload_n 0, 1) := by decide +kernel
theorem dX11_mend_21 : decode cX11_mend 21 = .ok (.getfield 26, 3) := by decide +kernel
theorem dX11_mend_24 : decode cX11_mend 24 = .ok (.getfield 156, 3) := by decide +kernel
theorem dX11_mend_27 : decode cX11_mend 27 = .ok (.getfield 214, 3) := by decide +kernel
theorem dX11_mend_30 : decode cX11_mend 30 = .ok (.if_icmp .ge 47, 3) := by decide +kernel
theorem dX11_mend_33 : decode cX11_mend 33 = .ok (.aload_n 0, 1) := by decide +kernel
theorem dX11_mend_34 : decode cX11_mend 34 = .ok (.getfield 43, 3) := by decide +kernel
theorem dX11_mend_37 : decode cX11_mend 37 = .ok (.aload_n 0, 1) := by decide +kernel
theorem dX11_mend_38 : decode cX11_mend 38 = .ok (.getfield 26, 3) := by decide +kernel
theorem dX11_mend_41 : decode cX11_mend 41 = .ok (.getfield 156, 3) := by decide +kernel
theorem dX11_mend_44 : decode cX11_mend 44 = .ok (.invokevirtual 236, 3) := by decide +kernel
theorem dX11_mend_47 : decode cX11_mend 47 = .ok (.aload_n 0, 1) := by decide +kernel
theorem dX11_mend_48 : decode cX11_mend 48 = .ok (.getfield 43, 3) := by decide +kernel
theorem dX11_mend_51 : decode cX11_mend 51 = .ok (.iload_n 2, 1) := by decide +kernel
theorem dX11_mend_52 : decode cX11_mend 52 = .ok (.invokevirtual 223, 3) := by decide +kernel
theorem dX11_mend_55 : decode cX11_mend 55 = .ok (.aload_n 0, 1) := by decide +kernel
theorem dX11_mend_56 : decode cX11_mend 56 = .ok (.getfield 71, 3) := by decide +kernel
theorem dX11_mend_59 : decode cX11_mend 59 = .ok (.iload_n 2, 1) := by decide +kernel
theorem dX11_mend_60 : decode cX11_mend 60 = .ok (.aload_n 0, 1) := by decide +kernel
theorem dX11_mend_61 : decode cX11_mend 61 = .ok (.aload_n 0, 1) := by decide +kernel
theorem dX11_mend_62 : decode cX11_mend 62 = .ok (.getfield 43, 3) := by decide +kernel
theorem dX11_mend_65 : decode cX11_mend 65 = .ok (.invokevirtual 210, 3) := by decide +kernel
theorem dX11_mend_68 : decode cX11_mend 68 = .ok (.invokevirtual 250, 3) := by decide +kernel
theorem dX11_mend_71 : decode cX11_mend 71 = .ok (.iinc 2 1, 3) := by decide +kernel
theorem dX11_mend_74 : decode cX11_mend 74 = .ok (.goto (-55), 3) := by decide +kernel
theorem dX11_mend_77 : decode cX11_mend 77 = .ok (.aload_n 0, 1) := by decide +kernel
theorem dX11_mend_78 : decode cX11_mend 78 = .ok (.getfield 71, 3) := by decide +kernel
theorem dX11_mend_81 : decode cX11_mend 81 = .ok (.iload_n 1, 1) := by decide +kernel
theorem dX11_mend_82 : decode cX11_mend 82 = .ok (.invokevirtual 247, 3) := by decide +kernel
theorem dX11_mend_85 : decode cX11_mend 85 = .ok (.ireturn, 1) := by decide +kernel
theorem dX11_best_0 : decode cX11_best 0 = .ok (.aload_n 0, 1) := by decide +kernel
theorem dX11_best_1 : decode cX11_best 1 = .ok (.iload_n 1, 1) := by decide +kernel
theorem dX11_best_2 : decode cX11_best 2 = .ok (.invokevirtual 167, 3) := by decide +kernel
theorem dX11_best_5 : decode cX11_best 5 = .ok (.ifCond .eq 11, 3) := by decide +kernel
theorem dX11_best_8 : decode cX11_best 8 = .ok (.iload_n 2, 1) := by decide +kernel
theorem dX11_best_9 : decode cX11_best 9 = .ok (.iconst 2, 1) := by decide +kernel
theorem dX11_best_10 : decode cX11_best 10 = .ok (.invokestatic 180, 3) := by decide +kernel
theorem dX11_best_13 : decode cX11_best 13 = .ok (.ifCond .ne 5, 3) := by decide +kernel
theorem dX11_best_16 : decode cX11_best 16 = .ok (.iconst (-1), 1) := by decide +kernel
theorem dX11_best_17 : decode cX11_best 17 = .ok (.ireturn, 1) := by decide +kernel
theorem dX11_best_18 : decode cX11_best 18 = .ok (.aload_n 0, 1) := by decide +kernel
theorem dX11_best_19 : decode cX11_best 19 = .ok (.getfield 26, 3) := by decide +kernel
theorem dX11_best_22 : decode cX11_best 22 = .ok (.getfield 116, 3) := by decide +kernel
theorem dX11_best_25 : decode cX11_best 25 = .ok (.astore_n 3, 1) := by decide +kernel
theorem dX11_best_26 : decode cX11_best 26 = .ok (.aload_n 0, 1) := by decide +kernel
theorem dX11_best_27 : decode cX11_best 27 = .ok (.getfield 71, 3) := by decide +kernel
theorem dX11_best_30 : decode cX11_best 30 = .ok (.invokevirtual 235, 3) := by decide +kernel
theorem dX11_best_33 : decode cX11_best 33 = .ok (.iconst 0, 1) := by decide +kernel
theorem dX11_best_34 : decode cX11_best 34 = .ok (.istore 4, 2) := by decide +kernel
theorem dX11_best_36 : decode cX11_best 36 = .ok (.iload 4, 2) := by decide +kernel
theorem dX11_best_38 : decode cX11_best 38 = .ok (.aload_n 0, 1) := by decide +kernel
theorem dX11_best_39 : decode cX11_best 39 = .ok (.getfield 26, 3) := by decide +kernel
theorem dX11_best_42 : decode cX11_best 42 = .ok (.getfield 125, 3) := by decide +kernel
theorem dX11_best_45 : decode cX11_best 45 = .ok (.getfield 143, 3) := by decide +kernel
theorem dX11_best_48 : decode cX11_best 48 = .ok (.if_icmp .ge 63, 3) := by decide +kernel
theorem dX11_best_51 : decode cX11_best 51 = .ok (.aload_n 0, 1) := by decide +kernel
theorem dX11_best_52 : decode cX11_best 52 = .ok (.getfield 36, 3) := by decide +kernel
theorem dX11_best_55 : decode cX11_best 55 = .ok (.aload_n 0, 1) := by decide +kernel
theorem dX11_best_56 : decode cX11_best 56 = .ok (.getfield 26, 3) := by decide +kernel
theorem dX11_best_59 : decode cX11_best 59 = .ok (.aload_n 0, 1) := by decide +kernel
theorem dX11_best_60 : decode cX11_best 60 = .ok (.getfield 26, 3) := by decide +kernel
theorem dX11_best_63 : decode cX11_best 63 = .ok (.getfield 156, 3) := by decide +kernel
theorem dX11_best_66 : decode cX11_best 66 = .ok (.aload_n 3, 1) := by decide +kernel
theorem dX11_best_67 : decode cX11_best 67 = .ok (.getfield 170, 3) := by decide +kernel
theorem dX11_best_70 : decode cX11_best 70 = .ok (.iload_n 1, 1) := by decide +kernel
theorem dX11_best_71 : decode cX11_best 71 = .ok (.iaload, 1) := by decide +kernel
theorem dX11_best_72 : decode cX11_best 72 = .ok (.aload_n 3, 1) := by decide +kernel
theorem dX11_best_73 : decode cX11_best 73 = .ok (.getfield 173, 3) := by decide +kernel
theorem dX11_best_76 : decode cX11_best 76 = .ok (.iload_n 1, 1) := by decide +kernel
theorem dX11_best_77 : decode cX11_best 77 = .ok (.iaload, 1) := by decide +kernel
theorem dX11_best_78 : decode cX11_best 78 = .ok (.aload_n 3, 1) := by decide +kernel
theorem dX11_best_79 : decode cX11_best 79 = .ok (.getfield 176, 3) := by decide +kernel
theorem dX11_best_82 : decode cX11_best 82 = .ok (.iload_n 1, 1) := by decide +kernel
theorem dX11_best_83 : decode cX11_best 83 = .ok (.iaload, 1) := by decide +kernel
theorem dX11_best_84 : decode cX11_best 84 = .ok (.iload 4, 2) := by decide +kernel
theorem dX11_best_86 : decode cX11_best 86 = .ok (.invokevirtual 254, 3) := by decide +kernel
theorem dX11_best_89 : decode cX11_best 89 = .ok (.aload_n 0, 1) := by decide +kernel
theorem dX11_best_90 : decode cX11_best 90 = .ok (.getfield 71, 3) := by decide +kernel
theorem dX11_best_93 : decode cX11_best 93 = .ok (.iload 4, 2) := by decide +kernel
theorem dX11_best_95 : decode cX11_best 95 = .ok (.aload_n 0, 1) := by decide +kernel
theorem dX11_best_96 : decode cX11_best 96 = .ok (.getfield 36, 3) := by decide +kernel
theorem dX11_best_99 : decode cX11_best 99 = .ok (.getfield 200, 3) := by decide +kernel
theorem dX11_best_102 : decode cX11_best 102 = .ok (.invokevirtual 250, 3) := by decide +kernel
theorem dX11_best_105 : decode cX11_best 105 = .ok (.iinc 4 1, 3) := by decide +kernel
theorem dX11_best_108 : decode cX11_best 108 = .ok (.goto (-72), 3) := by decide +kernel
theorem dX11_best_111 : decode cX11_best 111 = .ok (.aload_n 0, 1) := by decide +kernel
theorem dX11_best_112 : decode cX11_best 112 = .ok (.getfield 71, 3) := by decide +kernel
theorem dX11_best_115 : decode cX11_best 115 = .ok (.iload_n 2, 1) := by decide +kernel
theorem dX11_best_116 : decode cX11_best 116 = .ok (.invokevirtual 247, 3) := by decide +kernel
theorem dX11_best_119 : decode cX11_best 119 = .ok (.ireturn, 1) := by decide +kernel
theorem dX11_watch_0 : decode cX11_watch 0 = .ok (.iload_n 1, 1) := by decide +kernel
theorem dX11_watch_1 : decode cX11_watch 1 = .ok (.iconst 2, 1) := by decide +kernel
theorem dX11_watch_2 : decode cX11_watch 2 = .ok (.invokestatic 180, 3) := by decide +kernel
theorem dX11_watch_5 : decode cX11_watch 5 = .ok (.ifCond .ne 5, 3) := by decide +kernel
theorem dX11_watch_8 : decode cX11_watch 8 = .ok (.iconst (-1), 1) := by decide +kernel
theorem dX11_watch_9 : decode cX11_watch 9 = .ok (.ireturn, 1) := by decide +kernel
theorem dX11_watch_10 : decode cX11_watch 10 = .ok (.aload_n 0, 1) := by decide +kernel
theorem dX11_watch_11 : decode cX11_watch 11 = .ok (.getfield 80, 3) := by decide +kernel
theorem dX11_watch_14 : decode cX11_watch 14 = .ok (.iconst 0, 1) := by decide +kernel
theorem dX11_watch_15 : decode cX11_watch 15 = .ok (.invokestatic 258, 3) := by decide +kernel
theorem dX11_watch_18 : decode cX11_watch 18 = .ok (.iconst 0, 1) := by decide +kernel
theorem dX11_watch_19 : decode cX11_watch 19 = .ok (.istore_n 2, 1) := by decide +kernel
theorem dX11_watch_20 : decode cX11_watch 20 = .ok (.iload_n 2, 1) := by decide +kernel
theorem dX11_watch_21 : decode cX11_watch 21 = .ok (.aload_n 0, 1) := by decide +kernel
theorem dX11_watch_22 : decode cX11_watch 22 = .ok (.getfield 26, 3) := by decide +kernel
theorem dX11_watch_25 : decode cX11_watch 25 = .ok (.getfield 116, 3) := by decide +kernel
theorem dX11_watch_28 : decode cX11_watch 28 = .ok (.getfield 120, 3) := by decide +kernel
theorem dX11_watch_31 : decode cX11_watch 31 = .ok (.if_icmp .ge 25, 3) := by decide +kernel
theorem dX11_watch_34 : decode cX11_watch 34 = .ok (.aload_n 0, 1) := by decide +kernel
theorem dX11_watch_35 : decode cX11_watch 35 = .ok (.iload_n 2, 1) := by decide +kernel
theorem dX11_watch_36 : decode cX11_watch 36 = .ok (.invokevirtual 184, 3) := by decide +kernel
theorem dX11_watch_39 : decode cX11_watch 39 = .ok (.aload_n 0, 1) := by decide +kernel
theorem dX11_watch_40 : decode cX11_watch 40 = .ok (.getfield 36, 3) := by decide +kernel
theorem dX11_watch_43 : decode cX11_watch 43 = .ok (.aload_n 0, 1) := by decide +kernel
theorem dX11_watch_44 : decode cX11_watch 44 = .ok (.getfield 80, 3) := by decide +kernel
theorem dX11_watch_47 : decode cX11_watch 47 = .ok (.invokevirtual 264, 3) := by decide +kernel
theorem dX11_watch_50 : decode cX11_watch 50 = .ok (.iinc 2 1, 3) := by decide +kernel
theorem dX11_watch_53 : decode cX11_watch 53 = .ok (.goto (-33), 3) := by decide +kernel
theorem dX11_watch_56 : decode cX11_watch 56 = .ok (.aload_n 0, 1) := by decide +kernel
theorem dX11_watch_57 : decode cX11_watch 57 = .ok (.getfield 71, 3) := by decide +kernel
theorem dX11_watch_60 : decode cX11_watch 60 = .ok (.invokevirtual 235, 3) := by decide +kernel
theorem dX11_watch_63 : decode cX11_watch 63 = .ok (.iconst 0, 1) := by decide +kernel
theorem dX11_watch_64 : decode cX11_watch 64 = .ok (.istore_n 2, 1) := by decide +kernel
theorem dX11_watch_65 : decode cX11_watch 65 = .ok (.iload_n 2, 1) := by decide +kernel
theorem dX11_watch_66 : decode cX11_watch 66 = .ok (.aload_n 0, 1) := by decide +kernel
theorem dX11_watch_67 : decode cX11_watch 67 = .ok (.getfield 26, 3) := by decide +kernel
theorem dX11_watch_70 : decode cX11_watch 70 = .ok (.getfield 125, 3) := by decide +kernel
theorem dX11_watch_73 : decode cX11_watch 73 = .ok (.getfield 143, 3) := by decide +kernel
theorem dX11_watch_76 : decode cX11_watch 76 = .ok (.if_icmp .ge 23, 3) := by decide +kernel
theorem dX11_watch_79 : decode cX11_watch 79 = .ok (.aload_n 0, 1) := by decide +kernel
theorem dX11_watch_80 : decode cX11_watch 80 = .ok (.getfield 71, 3) := by decide +kernel
theorem dX11_watch_83 : decode cX11_watch 83 = .ok (.iload_n 2, 1) := by decide +kernel
theorem dX11_watch_84 : decode cX11_watch 84 = .ok (.aload_n 0, 1) := by decide +kernel
theorem dX11_watch_85 : decode cX11_watch 85 = .ok (.getfield 80, 3) := by decide +kernel
theorem dX11_watch_88 : decode cX11_watch 88 = .ok (.iload_n 2, 1) := by decide +kernel
theorem dX11_watch_89 : decode cX11_watch 89 = .ok (.iaload, 1) := by decide +kernel
theorem dX11_watch_90 : decode cX11_watch 90 = .ok (.invokevirtual 268, 3) := by decide +kernel
theorem dX11_watch_93 : decode cX11_watch 93 = .ok (.iinc 2 1, 3) := by decide +kernel
theorem dX11_watch_96 : decode cX11_watch 96 = .ok (.goto (-31), 3) := by decide +kernel
theorem dX11_watch_99 : decode cX11_watch 99 = .ok (.aload_n 0, 1) := by decide +kernel
theorem dX11_watch_100 : decode cX11_watch 100 = .ok (.getfield 71, 3) := by decide +kernel
theorem dX11_watch_103 : decode cX11_watch 103 = .ok (.iload_n 1, 1) := by decide +kernel
theorem dX11_watch_104 : decode cX11_watch 104 = .ok (.invokevirtual 247, 3) := by decide +kernel
theorem dX11_watch_107 : decode cX11_watch 107 = .ok (.ireturn, 1) := by decide +kernel
theorem dX11_missed_0 : decode cX11_missed 0 = .ok (.iload_n 1, 1) := by decide +kernel
theorem dX11_missed_1 : decode cX11_missed 1 = .ok (.iconst 2, 1) := by decide +kernel
theorem dX11_missed_2 : decode cX11_missed 2 = .ok (.invokestatic 180, 3) := by decide +kernel
theorem dX11_missed_5 : decode cX11_missed 5 = .ok (.ifCond .ne 5, 3) := by decide +kernel
theorem dX11_missed_8 : decode cX11_missed 8 = .ok (.iconst (-1), 1) := by decide +kernel
theorem dX11_missed_9 : decode cX11_missed 9 = .ok (.ireturn, 1) := by decide +kernel
theorem dX11_missed_10 : decode cX11_missed 10 = .ok (.aload_n 0, 1) := by decide +kernel
theorem dX11_missed_11 : decode cX11_missed 11 = .ok (.getfield 26, 3) := by decide +kernel
theorem dX11_missed_14 : decode cX11_missed 14 = .ok (.aload_n 0, 1) := by decide +kernel
theorem dX11_missed_15 : decode cX11_missed 15 = .ok (.getfield 26, 3) := by decide +kernel
theorem dX11_missed_18 : decode cX11_missed 18 = .ok (.getfield 125, 3) := by decide +kernel
theorem dX11_missed_21 : decode cX11_missed 21 = .ok (.getfield 129, 3) := by decide +kernel
theorem dX11_missed_24 : decode cX11_missed 24 = .ok (.invokevirtual 271, 3) := by decide +kernel
theorem dX11_missed_27 : decode cX11_missed 27 = .ok (.istore_n 2, 1) := by decide +kernel
theorem dX11_missed_28 : decode cX11_missed 28 = .ok (.aload_n 0, 1) := by decide +kernel
theorem dX11_missed_29 : decode cX11_missed 29 = .ok (.getfield 71, 3) := by decide +kernel
theorem dX11_missed_32 : decode cX11_missed 32 = .ok (.invokevirtual 235, 3) := by decide +kernel
theorem dX11_missed_35 : decode cX11_missed 35 = .ok (.iconst 0, 1) := by decide +kernel
theorem dX11_missed_36 : decode cX11_missed 36 = .ok (.istore_n 3, 1) := by decide +kernel
theorem dX11_missed_37 : decode cX11_missed 37 = .ok (.iload_n 3, 1) := by decide +kernel
theorem dX11_missed_38 : decode cX11_missed 38 = .ok (.aload_n 0, 1) := by decide +kernel
theorem dX11_missed_39 : decode cX11_missed 39 = .ok (.getfield 26, 3) := by decide +kernel
theorem dX11_missed_42 : decode cX11_missed 42 = .ok (.getfield 125, 3) := by decide +kernel
theorem dX11_missed_45 : decode cX11_missed 45 = .ok (.getfield 275, 3) := by decide +kernel
theorem dX11_missed_48 : decode cX11_missed 48 = .ok (.if_icmp .ge 45, 3) := by decide +kernel
theorem dX11_missed_51 : decode cX11_missed 51 = .ok (.aload_n 0, 1) := by decide +kernel
theorem dX11_missed_52 : decode cX11_missed 52 = .ok (.getfield 26, 3) := by decide +kernel
theorem dX11_missed_55 : decode cX11_missed 55 = .ok (.getfield 125, 3) := by decide +kernel
theorem dX11_missed_58 : decode cX11_missed 58 = .ok (.aload_n 0, 1) := by decide +kernel
theorem dX11_missed_59 : decode cX11_missed 59 = .ok (.getfield 77, 3) := by decide +kernel
theorem dX11_missed_62 : decode cX11_missed 62 = .ok (.iload_n 3, 1) := by decide +kernel
theorem dX11_missed_63 : decode cX11_missed 63 = .ok (.invokevirtual 134, 3) := by decide +kernel
theorem dX11_missed_66 : decode cX11_missed 66 = .ok (.aload_n 0, 1) := by decide +kernel
theorem dX11_missed_67 : decode cX11_missed 67 = .ok (.getfield 71, 3) := by decide +kernel
theorem dX11_missed_70 : decode cX11_missed 70 = .ok (.iload_n 3, 1) := by decide +kernel
theorem dX11_missed_71 : decode cX11_missed 71 = .ok (.aload_n 0, 1) := by decide +kernel
theorem dX11_missed_72 : decode cX11_missed 72 = .ok (.getfield 26, 3) := by decide +kernel
theorem dX11_missed_75 : decode cX11_missed 75 = .ok (.aload_n 0, 1) := by decide +kernel
theorem dX11_missed_76 : decode cX11_missed 76 = .ok (.getfield 77, 3) := by decide +kernel
theorem dX11_missed_79 : decode cX11_missed 79 = .ok (.invokevirtual 271, 3) := by decide +kernel
theorem dX11_missed_82 : decode cX11_missed 82 = .ok (.iload_n 2, 1) := by decide +kernel
theorem dX11_missed_83 : decode cX11_missed 83 = .ok (.isub, 1) := by decide +kernel
theorem dX11_missed_84 : decode cX11_missed 84 = .ok (.invokevirtual 268, 3) := by decide +kernel
theorem dX11_missed_87 : decode cX11_missed 87 = .ok (.iinc 3 1, 3) := by decide +kernel
theorem dX11_missed_90 : decode cX11_missed 90 = .ok (.goto (-53), 3) := by decide +kernel
theorem dX11_missed_93 : decode cX11_missed 93 = .ok (.aload_n 0, 1) := by decide +kernel
theorem dX11_missed_94 : decode cX11_missed 94 = .ok (.getfield 71, 3) := by decide +kernel
theorem dX11_missed_97 : decode cX11_missed 97 = .ok (.iload_n 1, 1) := by decide +kernel
theorem dX11_missed_98 : decode cX11_missed 98 = .ok (.invokevirtual 247, 3) := by decide +kernel
theorem dX11_missed_101 : decode cX11_missed 101 = .ok (.ireturn, 1) := by decide +kernel
theorem dX11_seen_0 : decode cX11_seen 0 = .ok (.aload_n 0, 1) := by decide +kernel
theorem dX11_seen_1 : decode cX11_seen 1 = .ok (.iload_n 1, 1) := by decide +kernel
theorem dX11_seen_2 : decode cX11_seen 2 = .ok (.invokevirtual 167, 3) := by decide +kernel
theorem dX11_seen_5 : decode cX11_seen 5 = .ok (.ifCond .eq 20, 3) := by decide +kernel
theorem dX11_seen_8 : decode cX11_seen 8 = .ok (.aload_n 0, 1) := by decide +kernel
theorem dX11_seen_9 : decode cX11_seen 9 = .ok (.iload_n 2, 1) := by decide +kernel
theorem dX11_seen_10 : decode cX11_seen 10 = .ok (.invokevirtual 146, 3) := by decide +kernel
theorem dX11_seen_13 : decode cX11_seen 13 = .ok (.ifCond .eq 12, 3) := by decide +kernel
theorem dX11_seen_16 : decode cX11_seen 16 = .ok (.iload_n 3, 1) := by decide +kernel
theorem dX11_seen_17 : decode cX11_seen 17 = .ok (.bipush 31, 2) := by decide +kernel
theorem dX11_seen_19 : decode cX11_seen 19 = .ok (.invokestatic 180, 3) := by decide +kernel
theorem dX11_seen_22 : decode cX11_seen 22 = .ok (.ifCond .ne 5, 3) := by decide +kernel
theorem dX11_seen_25 : decode cX11_seen 25 = .ok (.iconst (-1), 1) := by decide +kernel
theorem dX11_seen_26 : decode cX11_seen 26 = .ok (.ireturn, 1) := by decide +kernel
theorem dX11_seen_27 : decode cX11_seen 27 = .ok (.aload_n 0, 1) := by decide +kernel
theorem dX11_seen_28 : decode cX11_seen 28 = .ok (.getfield 64, 3) := by decide +kernel
theorem dX11_seen_31 : decode cX11_seen 31 = .ok (.getfield 142, 3) := by decide +kernel
theorem dX11_seen_34 : decode cX11_seen 34 = .ok (.bipush 8, 2) := by decide +kernel
theorem dX11_seen_36 : decode cX11_seen 36 = .ok (.if_icmp .lt 6, 3) := by decide +kernel
theorem dX11_seen_39 : decode cX11_seen 39 = .ok (.bipush (-3), 2) := by decide +kernel
theorem dX11_seen_41 : decode cX11_seen 41 = .ok (.ireturn, 1) := by decide +kernel
theorem dX11_seen_42 : decode cX11_seen 42 = .ok (.aload_n 0, 1) := by decide +kernel
theorem dX11_seen_43 : decode cX11_seen 43 = .ok (.getfield 64, 3) := by decide +kernel
theorem dX11_seen_46 : decode cX11_seen 46 = .ok (.iload_n 1, 1) := by decide +kernel
theorem dX11_seen_47 : decode cX11_seen 47 = .ok (.iload_n 2, 1) := by decide +kernel
theorem dX11_seen_48 : decode cX11_seen 48 = .ok (.iload_n 3, 1) := by decide +kernel
theorem dX11_seen_49 : decode cX11_seen 49 = .ok (.invokevirtual 276, 3) := by decide +kernel
theorem dX11_seen_52 : decode cX11_seen 52 = .ok (.aload_n 0, 1) := by decide +kernel
theorem dX11_seen_53 : decode cX11_seen 53 = .ok (.getfield 64, 3) := by decide +kernel
theorem dX11_seen_56 : decode cX11_seen 56 = .ok (.getfield 142, 3) := by decide +kernel
theorem dX11_seen_59 : decode cX11_seen 59 = .ok (.ireturn, 1) := by decide +kernel
theorem dX11_forget_0 : decode cX11_forget 0 = .ok (.aload_n 0, 1) := by decide +kernel
theorem dX11_forget_1 : decode cX11_forget 1 = .ok (.getfield 64, 3) := by decide +kernel
theorem dX11_forget_4 : decode cX11_forget 4 = .ok (.getfield 142, 3) := by decide +kernel
theorem dX11_forget_7 : decode cX11_forget 7 = .ok (.istore_n 1, 1) := by decide +kernel
theorem dX11_forget_8 : decode cX11_forget 8 = .ok (.aload_n 0, 1) := by decide +kernel
theorem dX11_forget_9 : decode cX11_forget 9 = .ok (.getfield 64, 3) := by decide +kernel
theorem dX11_forget_12 : decode cX11_forget 12 = .ok (.iconst 0, 1) := by decide +kernel
theorem dX11_forget_13 : decode cX11_forget 13 = .ok (.putfield 142, 3) := by decide +kernel
theorem dX11_forget_16 : decode cX11_forget 16 = .ok (.iload_n 1, 1) := by decide +kernel
theorem dX11_forget_17 : decode cX11_forget 17 = .ok (.ireturn, 1) := by decide +kernel
theorem dX11_kinds_0 : decode cX11_kinds 0 = .ok (.aload_n 0, 1) := by decide +kernel
theorem dX11_kinds_1 : decode cX11_kinds 1 = .ok (.iload_n 1, 1) := by decide +kernel
theorem dX11_kinds_2 : decode cX11_kinds 2 = .ok (.invokevirtual 167, 3) := by decide +kernel
theorem dX11_kinds_5 : decode cX11_kinds 5 = .ok (.ifCond .ne 5, 3) := by decide +kernel
theorem dX11_kinds_8 : decode cX11_kinds 8 = .ok (.iconst (-1), 1) := by decide +kernel
theorem dX11_kinds_9 : decode cX11_kinds 9 = .ok (.ireturn, 1) := by decide +kernel
theorem dX11_kinds_10 : decode cX11_kinds 10 = .ok (.aload_n 0, 1) := by decide +kernel
theorem dX11_kinds_11 : decode cX11_kinds 11 = .ok (.getfield 26, 3) := by decide +kernel
theorem dX11_kinds_14 : decode cX11_kinds 14 = .ok (.getfield 116, 3) := by decide +kernel
theorem dX11_kinds_17 : decode cX11_kinds 17 = .ok (.astore_n 2, 1) := by decide +kernel
theorem dX11_kinds_18 : decode cX11_kinds 18 = .ok (.iconst 0, 1) := by decide +kernel
theorem dX11_kinds_19 : decode cX11_kinds 19 = .ok (.istore_n 3, 1) := by decide +kernel
theorem dX11_kinds_20 : decode cX11_kinds 20 = .ok (.iconst 0, 1) := by decide +kernel
theorem dX11_kinds_21 : decode cX11_kinds 21 = .ok (.istore 4, 2) := by decide +kernel
theorem dX11_kinds_23 : decode cX11_kinds 23 = .ok (.iload 4, 2) := by decide +kernel
theorem dX11_kinds_25 : decode cX11_kinds 25 = .ok (.iconst 4, 1) := by decide +kernel
theorem dX11_kinds_26 : decode cX11_kinds 26 = .ok (.if_icmp .ge 69, 3) := by decide +kernel
theorem dX11_kinds_29 : decode cX11_kinds 29 = .ok (.aload_n 0, 1) := by decide +kernel
theorem dX11_kinds_30 : decode cX11_kinds 30 = .ok (.getfield 36, 3) := by decide +kernel
theorem dX11_kinds_33 : decode cX11_kinds 33 = .ok (.aload_n 0, 1) := by decide +kernel
theorem dX11_kinds_34 : decode cX11_kinds 34 = .ok (.getfield 26, 3) := by decide +kernel
theorem dX11_kinds_37 : decode cX11_kinds 37 = .ok (.aload_n 0, 1) := by decide +kernel
theorem dX11_kinds_38 : decode cX11_kinds 38 = .ok (.getfield 26, 3) := by decide +kernel
theorem dX11_kinds_41 : decode cX11_kinds 41 = .ok (.getfield 156, 3) := by decide +kernel
theorem dX11_kinds_44 : decode cX11_kinds 44 = .ok (.iload 4, 2) := by decide +kernel
theorem dX11_kinds_46 : decode cX11_kinds 46 = .ok (.aload_n 2, 1) := by decide +kernel
theorem dX11_kinds_47 : decode cX11_kinds 47 = .ok (.getfield 173, 3) := by decide +kernel
theorem dX11_kinds_50 : decode cX11_kinds 50 = .ok (.iload_n 1, 1) := by decide +kernel
theorem dX11_kinds_51 : decode cX11_kinds 51 = .ok (.iaload, 1) := by decide +kernel
theorem dX11_kinds_52 : decode cX11_kinds 52 = .ok (.aload_n 2, 1) := by decide +kernel
theorem dX11_kinds_53 : decode cX11_kinds 53 = .ok (.getfield 176, 3) := by decide +kernel
theorem dX11_kinds_56 : decode cX11_kinds 56 = .ok (.iload_n 1, 1) := by decide +kernel
theorem dX11_kinds_57 : decode cX11_kinds 57 = .ok (.iaload, 1) := by decide +kernel
theorem dX11_kinds_58 : decode cX11_kinds 58 = .ok (.aload_n 2, 1) := by decide +kernel
theorem dX11_kinds_59 : decode cX11_kinds 59 = .ok (.getfield 177, 3) := by decide +kernel
theorem dX11_kinds_62 : decode cX11_kinds 62 = .ok (.iload_n 1, 1) := by decide +kernel
theorem dX11_kinds_63 : decode cX11_kinds 63 = .ok (.iaload, 1) := by decide +kernel
theorem dX11_kinds_64 : decode cX11_kinds 64 = .ok (.invokevirtual 254, 3) := by decide +kernel
theorem dX11_kinds_67 : decode cX11_kinds 67 = .ok (.aload_n 0, 1) := by decide +kernel
theorem dX11_kinds_68 : decode cX11_kinds 68 = .ok (.getfield 64, 3) := by decide +kernel
theorem dX11_kinds_71 : decode cX11_kinds 71 = .ok (.iload_n 1, 1) := by decide +kernel
theorem dX11_kinds_72 : decode cX11_kinds 72 = .ok (.aload_n 0, 1) := by decide +kernel
theorem dX11_kinds_73 : decode cX11_kinds 73 = .ok (.getfield 36, 3) := by decide +kernel
theorem dX11_kinds_76 : decode cX11_kinds 76 = .ok (.invokevirtual 279, 3) := by decide +kernel
theorem dX11_kinds_79 : decode cX11_kinds 79 = .ok (.ifCond .eq 10, 3) := by decide +kernel
theorem dX11_kinds_82 : decode cX11_kinds 82 = .ok (.iload_n 3, 1) := by decide +kernel
theorem dX11_kinds_83 : decode cX11_kinds 83 = .ok (.iconst 1, 1) := by decide +kernel
theorem dX11_kinds_84 : decode cX11_kinds 84 = .ok (.iload 4, 2) := by decide +kernel
theorem dX11_kinds_86 : decode cX11_kinds 86 = .ok (.ishl, 1) := by decide +kernel
theorem dX11_kinds_87 : decode cX11_kinds 87 = .ok (.ior, 1) := by decide +kernel
theorem dX11_kinds_88 : decode cX11_kinds 88 = .ok (.istore_n 3, 1) := by decide +kernel
theorem dX11_kinds_89 : decode cX11_kinds 89 = .ok (.iinc 4 1, 3) := by decide +kernel
theorem dX11_kinds_92 : decode cX11_kinds 92 = .ok (.goto (-69), 3) := by decide +kernel
theorem dX11_kinds_95 : decode cX11_kinds 95 = .ok (.iload_n 3, 1) := by decide +kernel
theorem dX11_kinds_96 : decode cX11_kinds 96 = .ok (.ireturn, 1) := by decide +kernel
theorem dX11_paid_0 : decode cX11_paid 0 = .ok (.iload_n 1, 1) := by decide +kernel
theorem dX11_paid_1 : decode cX11_paid 1 = .ok (.sipush 1000, 3) := by decide +kernel
theorem dX11_paid_4 : decode cX11_paid 4 = .ok (.invokestatic 180, 3) := by decide +kernel
theorem dX11_paid_7 : decode cX11_paid 7 = .ok (.ifCond .eq 11, 3) := by decide +kernel
theorem dX11_paid_10 : decode cX11_paid 10 = .ok (.iload_n 2, 1) := by decide +kernel
theorem dX11_paid_11 : decode cX11_paid 11 = .ok (.iconst 2, 1) := by decide +kernel
theorem dX11_paid_12 : decode cX11_paid 12 = .ok (.invokestatic 180, 3) := by decide +kernel
theorem dX11_paid_15 : decode cX11_paid 15 = .ok (.ifCond .ne 5, 3) := by decide +kernel
theorem dX11_paid_18 : decode cX11_paid 18 = .ok (.iconst (-1), 1) := by decide +kernel
theorem dX11_paid_19 : decode cX11_paid 19 = .ok (.ireturn, 1) := by decide +kernel
theorem dX11_paid_20 : decode cX11_paid 20 = .ok (.aload_n 0, 1) := by decide +kernel
theorem dX11_paid_21 : decode cX11_paid 21 = .ok (.getfield 26, 3) := by decide +kernel
theorem dX11_paid_24 : decode cX11_paid 24 = .ok (.getfield 116, 3) := by decide +kernel
theorem dX11_paid_27 : decode cX11_paid 27 = .ok (.getfield 120, 3) := by decide +kernel
theorem dX11_paid_30 : decode cX11_paid 30 = .ok (.istore_n 3, 1) := by decide +kernel
theorem dX11_paid_31 : decode cX11_paid 31 = .ok (.iconst 0, 1) := by decide +kernel
theorem dX11_paid_32 : decode cX11_paid 32 = .ok (.istore 4, 2) := by decide +kernel
theorem dX11_paid_34 : decode cX11_paid 34 = .ok (.iload 4, 2) := by decide +kernel
theorem dX11_paid_36 : decode cX11_paid 36 = .ok (.iload_n 3, 1) := by decide +kernel
theorem dX11_paid_37 : decode cX11_paid 37 = .ok (.if_icmp .ge 29, 3) := by decide +kernel
theorem dX11_paid_40 : decode cX11_paid 40 = .ok (.aload_n 0, 1) := by decide +kernel
theorem dX11_paid_41 : decode cX11_paid 41 = .ok (.iload 4, 2) := by decide +kernel
theorem dX11_paid_43 : decode cX11_paid 43 = .ok (.invokevirtual 184, 3) := by decide +kernel
theorem dX11_paid_46 : decode cX11_paid 46 = .ok (.aload_n 0, 1) := by decide +kernel
theorem dX11_paid_47 : decode cX11_paid 47 = .ok (.getfield 84, 3) := by decide +kernel
theorem dX11_paid_50 : decode cX11_paid 50 = .ok (.iload 4, 2) := by decide +kernel
theorem dX11_paid_52 : decode cX11_paid 52 = .ok (.aload_n 0, 1) := by decide +kernel
theorem dX11_paid_53 : decode cX11_paid 53 = .ok (.getfield 36, 3) := by decide +kernel
theorem dX11_paid_56 : decode cX11_paid 56 = .ok (.getfield 200, 3) := by decide +kernel
theorem dX11_paid_59 : decode cX11_paid 59 = .ok (.iastore, 1) := by decide +kernel
theorem dX11_paid_60 : decode cX11_paid 60 = .ok (.iinc 4 1, 3) := by decide +kernel
theorem dX11_paid_63 : decode cX11_paid 63 = .ok (.goto (-29), 3) := by decide +kernel
theorem dX11_paid_66 : decode cX11_paid 66 = .ok (.iconst 0, 1) := by decide +kernel
theorem dX11_paid_67 : decode cX11_paid 67 = .ok (.istore 4, 2) := by decide +kernel
theorem dX11_paid_69 : decode cX11_paid 69 = .ok (.bipush (-4), 2) := by decide +kernel
theorem dX11_paid_71 : decode cX11_paid 71 = .ok (.istore 5, 2) := by decide +kernel
theorem dX11_paid_73 : decode cX11_paid 73 = .ok (.iconst 0, 1) := by decide +kernel
theorem dX11_paid_74 : decode cX11_paid 74 = .ok (.istore 6, 2) := by decide +kernel
theorem dX11_paid_76 : decode cX11_paid 76 = .ok (.iload 6, 2) := by decide +kernel
theorem dX11_paid_78 : decode cX11_paid 78 = .ok (.iconst 1, 1) := by decide +kernel
theorem dX11_paid_79 : decode cX11_paid 79 = .ok (.iload_n 3, 1) := by decide +kernel
theorem dX11_paid_80 : decode cX11_paid 80 = .ok (.ishl, 1) := by decide +kernel
theorem dX11_paid_81 : decode cX11_paid 81 = .ok (.if_icmp .ge 39, 3) := by decide +kernel
theorem dX11_paid_84 : decode cX11_paid 84 = .ok (.aload_n 0, 1) := by decide +kernel
theorem dX11_paid_85 : decode cX11_paid 85 = .ok (.iload 6, 2) := by decide +kernel
theorem dX11_paid_87 : decode cX11_paid 87 = .ok (.iload_n 3, 1) := by decide +kernel
theorem dX11_paid_88 : decode cX11_paid 88 = .ok (.invokevirtual 283, 3) := by decide +kernel
theorem dX11_paid_91 : decode cX11_paid 91 = .ok (.iload_n 1, 1) := by decide +kernel
theorem dX11_paid_92 : decode cX11_paid 92 = .ok (.if_icmp .ne 22, 3) := by decide +kernel
theorem dX11_paid_95 : decode cX11_paid 95 = .ok (.iinc 4 1, 3) := by decide +kernel
theorem dX11_paid_98 : decode cX11_paid 98 = .ok (.iload 5, 2) := by decide +kernel
theorem dX11_paid_100 : decode cX11_paid 100 = .ok (.bipush (-4), 2) := by decide +kernel
theorem dX11_paid_102 : decode cX11_paid 102 = .ok (.if_icmp .ne 8, 3) := by decide +kernel
theorem dX11_paid_105 : decode cX11_paid 105 = .ok (.iload 6, 2) := by decide +kernel
theorem dX11_paid_107 : decode cX11_paid 107 = .ok (.goto 5, 3) := by decide +kernel
theorem dX11_paid_110 : decode cX11_paid 110 = .ok (.iload 5, 2) := by decide +kernel
theorem dX11_paid_112 : decode cX11_paid 112 = .ok (.istore 5, 2) := by decide +kernel
theorem dX11_paid_114 : decode cX11_paid 114 = .ok (.iinc 6 1, 3) := by decide +kernel
theorem dX11_paid_117 : decode cX11_paid 117 = .ok (.goto (-41), 3) := by decide +kernel
theorem dX11_paid_120 : decode cX11_paid 120 = .ok (.iload_n 2, 1) := by decide +kernel
theorem dX11_paid_121 : decode cX11_paid 121 = .ok (.ifCond .ne 8, 3) := by decide +kernel
theorem dX11_paid_124 : decode cX11_paid 124 = .ok (.iload 4, 2) := by decide +kernel
theorem dX11_paid_126 : decode cX11_paid 126 = .ok (.goto 5, 3) := by decide +kernel
theorem dX11_paid_129 : decode cX11_paid 129 = .ok (.iload 5, 2) := by decide +kernel
theorem dX11_paid_131 : decode cX11_paid 131 = .ok (.ireturn, 1) := by decide +kernel
theorem dX11_mean_0 : decode cX11_mean 0 = .ok (.iload_n 1, 1) := by decide +kernel
theorem dX11_mean_1 : decode cX11_mean 1 = .ok (.bipush 6, 2) := by decide +kernel
theorem dX11_mean_3 : decode cX11_mean 3 = .ok (.invokestatic 180, 3) := by decide +kernel
theorem dX11_mean_6 : decode cX11_mean 6 = .ok (.ifCond .eq 20, 3) := by decide +kernel
theorem dX11_mean_9 : decode cX11_mean 9 = .ok (.iload_n 2, 1) := by decide +kernel
theorem dX11_mean_10 : decode cX11_mean 10 = .ok (.bipush 11, 2) := by decide +kernel
theorem dX11_mean_12 : decode cX11_mean 12 = .ok (.invokestatic 180, 3) := by decide +kernel
theorem dX11_mean_15 : decode cX11_mean 15 = .ok (.ifCond .eq 11, 3) := by decide +kernel
theorem dX11_mean_18 : decode cX11_mean 18 = .ok (.iload_n 3, 1) := by decide +kernel
theorem dX11_mean_19 : decode cX11_mean 19 = .ok (.iconst 2, 1) := by decide +kernel
theorem dX11_mean_20 : decode cX11_mean 20 = .ok (.invokestatic 180, 3) := by decide +kernel
theorem dX11_mean_23 : decode cX11_mean 23 = .ok (.ifCond .ne 5, 3) := by decide +kernel
theorem dX11_mean_26 : decode cX11_mean 26 = .ok (.iconst (-1), 1) := by decide +kernel
theorem dX11_mean_27 : decode cX11_mean 27 = .ok (.ireturn, 1) := by decide +kernel
theorem dX11_mean_28 : decode cX11_mean 28 = .ok (.iload_n 1, 1) := by decide +kernel
theorem dX11_mean_29 : decode cX11_mean 29 = .ok (.aload_n 0, 1) := by decide +kernel
theorem dX11_mean_30 : decode cX11_mean 30 = .ok (.getfield 26, 3) := by decide +kernel
theorem dX11_mean_33 : decode cX11_mean 33 = .ok (.getfield 156, 3) := by decide +kernel
theorem dX11_mean_36 : decode cX11_mean 36 = .ok (.getfield 214, 3) := by decide +kernel
theorem dX11_mean_39 : decode cX11_mean 39 = .ok (.invokestatic 287, 3) := by decide +kernel
theorem dX11_mean_42 : decode cX11_mean 42 = .ok (.istore 4, 2) := by decide +kernel
theorem dX11_mean_44 : decode cX11_mean 44 = .ok (.iconst 0, 1) := by decide +kernel
theorem dX11_mean_45 : decode cX11_mean 45 = .ok (.istore 5, 2) := by decide +kernel
theorem dX11_mean_47 : decode cX11_mean 47 = .ok (.iconst 1, 1) := by decide +kernel
theorem dX11_mean_48 : decode cX11_mean 48 = .ok (.istore 6, 2) := by decide +kernel
theorem dX11_mean_50 : decode cX11_mean 50 = .ok (.iconst 0, 1) := by decide +kernel
theorem dX11_mean_51 : decode cX11_mean 51 = .ok (.istore 7, 2) := by decide +kernel
theorem dX11_mean_53 : decode cX11_mean 53 = .ok (.iload 7, 2) := by decide +kernel
theorem dX11_mean_55 : decode cX11_mean 55 = .ok (.iload 4, 2) := by decide +kernel
theorem dX11_mean_57 : decode cX11_mean 57 = .ok (.if_icmp .ge 16, 3) := by decide +kernel
theorem dX11_mean_60 : decode cX11_mean 60 = .ok (.iload 6, 2) := by decide +kernel
theorem dX11_mean_62 : decode cX11_mean 62 = .ok (.bipush 10, 2) := by decide +kernel
theorem dX11_mean_64 : decode cX11_mean 64 = .ok (.imul, 1) := by decide +kernel
theorem dX11_mean_65 : decode cX11_mean 65 = .ok (.istore 6, 2) := by decide +kernel
theorem dX11_mean_67 : decode cX11_mean 67 = .ok (.iinc 7 1, 3) := by decide +kernel
theorem dX11_mean_70 : decode cX11_mean 70 = .ok (.goto (-17), 3) := by decide +kernel
theorem dX11_mean_73 : decode cX11_mean 73 = .ok (.iconst 0, 1) := by decide +kernel
theorem dX11_mean_74 : decode cX11_mean 74 = .ok (.istore 7, 2) := by decide +kernel
theorem dX11_mean_76 : decode cX11_mean 76 = .ok (.iload 7, 2) := by decide +kernel
theorem dX11_mean_78 : decode cX11_mean 78 = .ok (.iconst 1, 1) := by decide +kernel
theorem dX11_mean_79 : decode cX11_mean 79 = .ok (.iload 4, 2) := by decide +kernel
theorem dX11_mean_81 : decode cX11_mean 81 = .ok (.ishl, 1) := by decide +kernel
theorem dX11_mean_82 : decode cX11_mean 82 = .ok (.if_icmp .ge 48, 3) := by decide +kernel
theorem dX11_mean_85 : decode cX11_mean 85 = .ok (.iload 7, 2) := by decide +kernel
theorem dX11_mean_87 : decode cX11_mean 87 = .ok (.iload 4, 2) := by decide +kernel
theorem dX11_mean_89 : decode cX11_mean 89 = .ok (.iload_n 2, 1) := by decide +kernel
theorem dX11_mean_90 : decode cX11_mean 90 = .ok (.invokestatic 292, 3) := by decide +kernel
theorem dX11_mean_93 : decode cX11_mean 93 = .ok (.istore 8, 2) := by decide +kernel
theorem dX11_mean_95 : decode cX11_mean 95 = .ok (.iload 8, 2) := by decide +kernel
theorem dX11_mean_97 : decode cX11_mean 97 = .ok (.ifCond .le 27, 3) := by decide +kernel
theorem dX11_mean_100 : decode cX11_mean 100 = .ok (.aload_n 0, 1) := by decide +kernel
theorem dX11_mean_101 : decode cX11_mean 101 = .ok (.iload 7, 2) := by decide +kernel
theorem dX11_mean_103 : decode cX11_mean 103 = .ok (.iload 4, 2) := by decide +kernel
theorem dX11_mean_105 : decode cX11_mean 105 = .ok (.invokevirtual 296, 3) := by decide +kernel
theorem dX11_mean_108 : decode cX11_mean 108 = .ok (.iload 5, 2) := by decide +kernel
theorem dX11_mean_110 : decode cX11_mean 110 = .ok (.iload 8, 2) := by decide +kernel
theorem dX11_mean_112 : decode cX11_mean 112 = .ok (.aload_n 0, 1) := by decide +kernel
theorem dX11_mean_113 : decode cX11_mean 113 = .ok (.aload_n 0, 1) := by decide +kernel
theorem dX11_mean_114 : decode cX11_mean 114 = .ok (.getfield 43, 3) := by decide +kernel
theorem dX11_mean_117 : decode cX11_mean 117 = .ok (.invokevirtual 210, 3) := by decide +kernel
theorem dX11_mean_120 : decode cX11_mean 120 = .ok (.imul, 1) := by decide +kernel
theorem dX11_mean_121 : decode cX11_mean 121 = .ok (.iadd, 1) := by decide +kernel
theorem dX11_mean_122 : decode cX11_mean 122 = .ok (.istore 5, 2) := by decide +kernel
theorem dX11_mean_124 : decode cX11_mean 124 = .ok (.iinc 7 1, 3) := by decide +kernel
theorem dX11_mean_127 : decode cX11_mean 127 = .ok (.goto (-51), 3) := by decide +kernel
theorem dX11_mean_130 : decode cX11_mean 130 = .ok (.iload_n 3, 1) := by decide +kernel
theorem dX11_mean_131 : decode cX11_mean 131 = .ok (.ifCond .ne 8, 3) := by decide +kernel
theorem dX11_mean_134 : decode cX11_mean 134 = .ok (.iload 5, 2) := by decide +kernel
theorem dX11_mean_136 : decode cX11_mean 136 = .ok (.goto 5, 3) := by decide +kernel
theorem dX11_mean_139 : decode cX11_mean 139 = .ok (.iload 6, 2) := by decide +kernel
theorem dX11_mean_141 : decode cX11_mean 141 = .ok (.iload 5, 2) := by decide +kernel
theorem dX11_mean_143 : decode cX11_mean 143 = .ok (.iload 6, 2) := by decide +kernel
theorem dX11_mean_145 : decode cX11_mean 145 = .ok (.invokestatic 299, 3) := by decide +kernel
theorem dX11_mean_148 : decode cX11_mean 148 = .ok (.idiv, 1) := by decide +kernel
theorem dX11_mean_149 : decode cX11_mean 149 = .ok (.ireturn, 1) := by decide +kernel
theorem dX11_day_0 : decode cX11_day 0 = .ok (.iload_n 1, 1) := by decide +kernel
theorem dX11_day_1 : decode cX11_day 1 = .ok (.sipush 10000, 3) := by decide +kernel
theorem dX11_day_4 : decode cX11_day 4 = .ok (.invokestatic 180, 3) := by decide +kernel
theorem dX11_day_7 : decode cX11_day 7 = .ok (.ifCond .eq 11, 3) := by decide +kernel
theorem dX11_day_10 : decode cX11_day 10 = .ok (.iload_n 2, 1) := by decide +kernel
theorem dX11_day_11 : decode cX11_day 11 = .ok (.iconst 2, 1) := by decide +kernel
theorem dX11_day_12 : decode cX11_day 12 = .ok (.invokestatic 180, 3) := by decide +kernel
theorem dX11_day_15 : decode cX11_day 15 = .ok (.ifCond .ne 5, 3) := by decide +kernel
theorem dX11_day_18 : decode cX11_day 18 = .ok (.iconst (-1), 1) := by decide +kernel
theorem dX11_day_19 : decode cX11_day 19 = .ok (.ireturn, 1) := by decide +kernel
theorem dX11_day_20 : decode cX11_day 20 = .ok (.iconst 1, 1) := by decide +kernel
theorem dX11_day_21 : decode cX11_day 21 = .ok (.aload_n 0, 1) := by decide +kernel
theorem dX11_day_22 : decode cX11_day 22 = .ok (.getfield 26, 3) := by decide +kernel
theorem dX11_day_25 : decode cX11_day 25 = .ok (.getfield 125, 3) := by decide +kernel
theorem dX11_day_28 : decode cX11_day 28 = .ok (.getfield 143, 3) := by decide +kernel
theorem dX11_day_31 : decode cX11_day 31 = .ok (.invokestatic 302, 3) := by decide +kernel
theorem dX11_day_34 : decode cX11_day 34 = .ok (.istore_n 3, 1) := by decide +kernel
theorem dX11_day_35 : decode cX11_day 35 = .ok (.iconst 0, 1) := by decide +kernel
theorem dX11_day_36 : decode cX11_day 36 = .ok (.istore 4, 2) := by decide +kernel
theorem dX11_day_38 : decode cX11_day 38 = .ok (.iconst 0, 1) := by decide +kernel
theorem dX11_day_39 : decode cX11_day 39 = .ok (.istore 5, 2) := by decide +kernel
theorem dX11_day_41 : decode cX11_day 41 = .ok (.iconst 0, 1) := by decide +kernel
theorem dX11_day_42 : decode cX11_day 42 = .ok (.istore 6, 2) := by decide +kernel
theorem dX11_day_44 : decode cX11_day 44 = .ok (.iload 6, 2) := by decide +kernel
theorem dX11_day_46 : decode cX11_day 46 = .ok (.aload_n 0, 1) := by decide +kernel
theorem dX11_day_47 : decode cX11_day 47 = .ok (.getfield 26, 3) := by decide +kernel
theorem dX11_day_50 : decode cX11_day 50 = .ok (.getfield 116, 3) := by decide +kernel
theorem dX11_day_53 : decode cX11_day 53 = .ok (.getfield 120, 3) := by decide +kernel
theorem dX11_day_56 : decode cX11_day 56 = .ok (.if_icmp .ge 97, 3) := by decide +kernel
theorem dX11_day_59 : decode cX11_day 59 = .ok (.iload_n 1, 1) := by decide +kernel
theorem dX11_day_60 : decode cX11_day 60 = .ok (.iload 6, 2) := by decide +kernel
theorem dX11_day_62 : decode cX11_day 62 = .ok (.invokestatic 305, 3) := by decide +kernel
theorem dX11_day_65 : decode cX11_day 65 = .ok (.istore 7, 2) := by decide +kernel
theorem dX11_day_67 : decode cX11_day 67 = .ok (.iload 7, 2) := by decide +kernel
theorem dX11_day_69 : decode cX11_day 69 = .ok (.bipush 8, 2) := by decide +kernel
theorem dX11_day_71 : decode cX11_day 71 = .ok (.idiv, 1) := by decide +kernel
theorem dX11_day_72 : decode cX11_day 72 = .ok (.iload_n 3, 1) := by decide +kernel
theorem dX11_day_73 : decode cX11_day 73 = .ok (.irem, 1) := by decide +kernel
theorem dX11_day_74 : decode cX11_day 74 = .ok (.istore 8, 2) := by decide +kernel
theorem dX11_day_76 : decode cX11_day 76 = .ok (.aload_n 0, 1) := by decide +kernel
theorem dX11_day_77 : decode cX11_day 77 = .ok (.getfield 36, 3) := by decide +kernel
theorem dX11_day_80 : decode cX11_day 80 = .ok (.aload_n 0, 1) := by decide +kernel
theorem dX11_day_81 : decode cX11_day 81 = .ok (.getfield 26, 3) := by decide +kernel
theorem dX11_day_84 : decode cX11_day 84 = .ok (.aload_n 0, 1) := by decide +kernel
theorem dX11_day_85 : decode cX11_day 85 = .ok (.getfield 26, 3) := by decide +kernel
theorem dX11_day_88 : decode cX11_day 88 = .ok (.getfield 156, 3) := by decide +kernel
theorem dX11_day_91 : decode cX11_day 91 = .ok (.aload_n 0, 1) := by decide +kernel
theorem dX11_day_92 : decode cX11_day 92 = .ok (.getfield 26, 3) := by decide +kernel
theorem dX11_day_95 : decode cX11_day 95 = .ok (.getfield 116, 3) := by decide +kernel
theorem dX11_day_98 : decode cX11_day 98 = .ok (.getfield 170, 3) := by decide +kernel
theorem dX11_day_101 : decode cX11_day 101 = .ok (.iload 6, 2) := by decide +kernel
theorem dX11_day_103 : decode cX11_day 103 = .ok (.iaload, 1) := by decide +kernel
theorem dX11_day_104 : decode cX11_day 104 = .ok (.iload 7, 2) := by decide +kernel
theorem dX11_day_106 : decode cX11_day 106 = .ok (.iload_n 3, 1) := by decide +kernel
theorem dX11_day_107 : decode cX11_day 107 = .ok (.irem, 1) := by decide +kernel
theorem dX11_day_108 : decode cX11_day 108 = .ok (.iload 8, 2) := by decide +kernel
theorem dX11_day_110 : decode cX11_day 110 = .ok (.iload 8, 2) := by decide +kernel
theorem dX11_day_112 : decode cX11_day 112 = .ok (.invokevirtual 254, 3) := by decide +kernel
theorem dX11_day_115 : decode cX11_day 115 = .ok (.iload 4, 2) := by decide +kernel
theorem dX11_day_117 : decode cX11_day 117 = .ok (.aload_n 0, 1) := by decide +kernel
theorem dX11_day_118 : decode cX11_day 118 = .ok (.getfield 36, 3) := by decide +kernel
theorem dX11_day_121 : decode cX11_day 121 = .ok (.getfield 200, 3) := by decide +kernel
theorem dX11_day_124 : decode cX11_day 124 = .ok (.iadd, 1) := by decide +kernel
theorem dX11_day_125 : decode cX11_day 125 = .ok (.istore 4, 2) := by decide +kernel
theorem dX11_day_127 : decode cX11_day 127 = .ok (.iload 5, 2) := by decide +kernel
theorem dX11_day_129 : decode cX11_day 129 = .ok (.aload_n 0, 1) := by decide +kernel
theorem dX11_day_130 : decode cX11_day 130 = .ok (.getfield 36, 3) := by decide +kernel
theorem dX11_day_133 : decode cX11_day 133 = .ok (.getfield 203, 3) := by decide +kernel
theorem dX11_day_136 : decode cX11_day 136 = .ok (.ifCond .eq 7, 3) := by decide +kernel
theorem dX11_day_139 : decode cX11_day 139 = .ok (.iconst 1, 1) := by decide +kernel
theorem dX11_day_140 : decode cX11_day 140 = .ok (.goto 4, 3) := by decide +kernel
theorem dX11_day_143 : decode cX11_day 143 = .ok (.iconst 0, 1) := by decide +kernel
theorem dX11_day_144 : decode cX11_day 144 = .ok (.iadd, 1) := by decide +kernel
theorem dX11_day_145 : decode cX11_day 145 = .ok (.istore 5, 2) := by decide +kernel
theorem dX11_day_147 : decode cX11_day 147 = .ok (.iinc 6 1, 3) := by decide +kernel
theorem dX11_day_150 : decode cX11_day 150 = .ok (.goto (-106), 3) := by decide +kernel
theorem dX11_day_153 : decode cX11_day 153 = .ok (.iload_n 2, 1) := by decide +kernel
theorem dX11_day_154 : decode cX11_day 154 = .ok (.ifCond .ne 8, 3) := by decide +kernel
theorem dX11_day_157 : decode cX11_day 157 = .ok (.iload 4, 2) := by decide +kernel
theorem dX11_day_159 : decode cX11_day 159 = .ok (.goto 5, 3) := by decide +kernel
theorem dX11_day_162 : decode cX11_day 162 = .ok (.iload 5, 2) := by decide +kernel
theorem dX11_day_164 : decode cX11_day 164 = .ok (.ireturn, 1) := by decide +kernel
theorem dX11_keep_0 : decode cX11_keep 0 = .ok (.aload_n 0, 1) := by decide +kernel
theorem dX11_keep_1 : decode cX11_keep 1 = .ok (.getfield 57, 3) := by decide +kernel
theorem dX11_keep_4 : decode cX11_keep 4 = .ok (.getfield 141, 3) := by decide +kernel
theorem dX11_keep_7 : decode cX11_keep 7 = .ok (.iconst 2, 1) := by decide +kernel
theorem dX11_keep_8 : decode cX11_keep 8 = .ok (.if_icmp .lt 6, 3) := by decide +kernel
theorem dX11_keep_11 : decode cX11_keep 11 = .ok (.bipush (-3), 2) := by decide +kernel
theorem dX11_keep_13 : decode cX11_keep 13 = .ok (.ireturn, 1) := by decide +kernel
theorem dX11_keep_14 : decode cX11_keep 14 = .ok (.aload_n 0, 1) := by decide +kernel
theorem dX11_keep_15 : decode cX11_keep 15 = .ok (.getfield 57, 3) := by decide +kernel
theorem dX11_keep_18 : decode cX11_keep 18 = .ok (.aload_n 0, 1) := by decide +kernel
theorem dX11_keep_19 : decode cX11_keep 19 = .ok (.getfield 26, 3) := by decide +kernel
theorem dX11_keep_22 : decode cX11_keep 22 = .ok (.invokevirtual 308, 3) := by decide +kernel
theorem dX11_keep_25 : decode cX11_keep 25 = .ok (.aload_n 0, 1) := by decide +kernel
theorem dX11_keep_26 : decode cX11_keep 26 = .ok (.getfield 57, 3) := by decide +kernel
theorem dX11_keep_29 : decode cX11_keep 29 = .ok (.getfield 141, 3) := by decide +kernel
theorem dX11_keep_32 : decode cX11_keep 32 = .ok (.ireturn, 1) := by decide +kernel
theorem dX11_back_0 : decode cX11_back 0 = .ok (.aload_n 0, 1) := by decide +kernel
theorem dX11_back_1 : decode cX11_back 1 = .ok (.getfield 57, 3) := by decide +kernel
theorem dX11_back_4 : decode cX11_back 4 = .ok (.getfield 141, 3) := by decide +kernel
theorem dX11_back_7 : decode cX11_back 7 = .ok (.ifCond .ne 6, 3) := by decide +kernel
theorem dX11_back_10 : decode cX11_back 10 = .ok (.bipush (-2), 2) := by decide +kernel
theorem dX11_back_12 : decode cX11_back 12 = .ok (.ireturn, 1) := by decide +kernel
theorem dX11_back_13 : decode cX11_back 13 = .ok (.aload_n 0, 1) := by decide +kernel
theorem dX11_back_14 : decode cX11_back 14 = .ok (.getfield 57, 3) := by decide +kernel
theorem dX11_back_17 : decode cX11_back 17 = .ok (.aload_n 0, 1) := by decide +kernel
theorem dX11_back_18 : decode cX11_back 18 = .ok (.getfield 26, 3) := by decide +kernel
theorem dX11_back_21 : decode cX11_back 21 = .ok (.invokevirtual 311, 3) := by decide +kernel
theorem dX11_back_24 : decode cX11_back 24 = .ok (.aload_n 0, 1) := by decide +kernel
theorem dX11_back_25 : decode cX11_back 25 = .ok (.getfield 50, 3) := by decide +kernel
theorem dX11_back_28 : decode cX11_back 28 = .ok (.invokevirtual 138, 3) := by decide +kernel
theorem dX11_back_31 : decode cX11_back 31 = .ok (.aload_n 0, 1) := by decide +kernel
theorem dX11_back_32 : decode cX11_back 32 = .ok (.getfield 57, 3) := by decide +kernel
theorem dX11_back_35 : decode cX11_back 35 = .ok (.getfield 141, 3) := by decide +kernel
theorem dX11_back_38 : decode cX11_back 38 = .ok (.ireturn, 1) := by decide +kernel
theorem dX11_count_0 : decode cX11_count 0 = .ok (.iload_n 1, 1) := by decide +kernel
theorem dX11_count_1 : decode cX11_count 1 = .ok (.tableswitch 123 0 7 #[47, 58, 69, 80, 91, 99, 107, 115], 47) := by decide +kernel
theorem dX11_count_48 : decode cX11_count 48 = .ok (.aload_n 0, 1) := by decide +kernel
theorem dX11_count_49 : decode cX11_count 49 = .ok (.getfield 26, 3) := by decide +kernel
theorem dX11_count_52 : decode cX11_count 52 = .ok (.getfield 125, 3) := by decide +kernel
theorem dX11_count_55 : decode cX11_count 55 = .ok (.getfield 143, 3) := by decide +kernel
theorem dX11_count_58 : decode cX11_count 58 = .ok (.ireturn, 1) := by decide +kernel
theorem dX11_count_59 : decode cX11_count 59 = .ok (.aload_n 0, 1) := by decide +kernel
theorem dX11_count_60 : decode cX11_count 60 = .ok (.getfield 26, 3) := by decide +kernel
theorem dX11_count_63 : decode cX11_count 63 = .ok (.getfield 125, 3) := by decide +kernel
theorem dX11_count_66 : decode cX11_count 66 = .ok (.getfield 275, 3) := by decide +kernel
theorem dX11_count_69 : decode cX11_count 69 = .ok (.ireturn, 1) := by decide +kernel
theorem dX11_count_70 : decode cX11_count 70 = .ok (.aload_n 0, 1) := by decide +kernel
theorem dX11_count_71 : decode cX11_count 71 = .ok (.getfield 26, 3) := by decide +kernel
theorem dX11_count_74 : decode cX11_count 74 = .ok (.getfield 156, 3) := by decide +kernel
theorem dX11_count_77 : decode cX11_count 77 = .ok (.getfield 214, 3) := by decide +kernel
theorem dX11_count_80 : decode cX11_count 80 = .ok (.ireturn, 1) := by decide +kernel
theorem dX11_count_81 : decode cX11_count 81 = .ok (.aload_n 0, 1) := by decide +kernel
theorem dX11_count_82 : decode cX11_count 82 = .ok (.getfield 26, 3) := by decide +kernel
theorem dX11_count_85 : decode cX11_count 85 = .ok (.getfield 116, 3) := by decide +kernel
theorem dX11_count_88 : decode cX11_count 88 = .ok (.getfield 120, 3) := by decide +kernel
theorem dX11_count_91 : decode cX11_count 91 = .ok (.ireturn, 1) := by decide +kernel
theorem dX11_count_92 : decode cX11_count 92 = .ok (.aload_n 0, 1) := by decide +kernel
theorem dX11_count_93 : decode cX11_count 93 = .ok (.getfield 64, 3) := by decide +kernel
theorem dX11_count_96 : decode cX11_count 96 = .ok (.getfield 142, 3) := by decide +kernel
theorem dX11_count_99 : decode cX11_count 99 = .ok (.ireturn, 1) := by decide +kernel
theorem dX11_count_100 : decode cX11_count 100 = .ok (.aload_n 0, 1) := by decide +kernel
theorem dX11_count_101 : decode cX11_count 101 = .ok (.getfield 50, 3) := by decide +kernel
theorem dX11_count_104 : decode cX11_count 104 = .ok (.getfield 226, 3) := by decide +kernel
theorem dX11_count_107 : decode cX11_count 107 = .ok (.ireturn, 1) := by decide +kernel
theorem dX11_count_108 : decode cX11_count 108 = .ok (.aload_n 0, 1) := by decide +kernel
theorem dX11_count_109 : decode cX11_count 109 = .ok (.getfield 57, 3) := by decide +kernel
theorem dX11_count_112 : decode cX11_count 112 = .ok (.getfield 141, 3) := by decide +kernel
theorem dX11_count_115 : decode cX11_count 115 = .ok (.ireturn, 1) := by decide +kernel
theorem dX11_count_116 : decode cX11_count 116 = .ok (.aload_n 0, 1) := by decide +kernel
theorem dX11_count_117 : decode cX11_count 117 = .ok (.getfield 10, 3) := by decide +kernel
theorem dX11_count_120 : decode cX11_count 120 = .ok (.getfield 109, 3) := by decide +kernel
theorem dX11_count_123 : decode cX11_count 123 = .ok (.ireturn, 1) := by decide +kernel
theorem dX11_count_124 : decode cX11_count 124 = .ok (.iconst (-1), 1) := by decide +kernel
theorem dX11_count_125 : decode cX11_count 125 = .ok (.ireturn, 1) := by decide +kernel
theorem dX11_isWithin_0 : decode cX11_isWithin 0 = .ok (.iload_n 0, 1) := by decide +kernel
theorem dX11_isWithin_1 : decode cX11_isWithin 1 = .ok (.ifCond .lt 12, 3) := by decide +kernel
theorem dX11_isWithin_4 : decode cX11_isWithin 4 = .ok (.iload_n 0, 1) := by decide +kernel
theorem dX11_isWithin_5 : decode cX11_isWithin 5 = .ok (.iload_n 1, 1) := by decide +kernel
theorem dX11_isWithin_6 : decode cX11_isWithin 6 = .ok (.if_icmp .ge 7, 3) := by decide +kernel
theorem dX11_isWithin_9 : decode cX11_isWithin 9 = .ok (.iconst 1, 1) := by decide +kernel
theorem dX11_isWithin_10 : decode cX11_isWithin 10 = .ok (.goto 4, 3) := by decide +kernel
theorem dX11_isWithin_13 : decode cX11_isWithin 13 = .ok (.iconst 0, 1) := by decide +kernel
theorem dX11_isWithin_14 : decode cX11_isWithin 14 = .ok (.ireturn, 1) := by decide +kernel
theorem dX11_isCorner_0 : decode cX11_isCorner 0 = .ok (.iload_n 1, 1) := by decide +kernel
theorem dX11_isCorner_1 : decode cX11_isCorner 1 = .ok (.aload_n 0, 1) := by decide +kernel
theorem dX11_isCorner_2 : decode cX11_isCorner 2 = .ok (.getfield 26, 3) := by decide +kernel
theorem dX11_isCorner_5 : decode cX11_isCorner 5 = .ok (.getfield 125, 3) := by decide +kernel
theorem dX11_isCorner_8 : decode cX11_isCorner 8 = .ok (.getfield 143, 3) := by decide +kernel
theorem dX11_isCorner_11 : decode cX11_isCorner 11 = .ok (.invokestatic 180, 3) := by decide +kernel
theorem dX11_isCorner_14 : decode cX11_isCorner 14 = .ok (.ireturn, 1) := by decide +kernel
theorem dX11_isSign_0 : decode cX11_isSign 0 = .ok (.iload_n 1, 1) := by decide +kernel
theorem dX11_isSign_1 : decode cX11_isSign 1 = .ok (.aload_n 0, 1) := by decide +kernel
theorem dX11_isSign_2 : decode cX11_isSign 2 = .ok (.getfield 26, 3) := by decide +kernel
theorem dX11_isSign_5 : decode cX11_isSign 5 = .ok (.getfield 156, 3) := by decide +kernel
theorem dX11_isSign_8 : decode cX11_isSign 8 = .ok (.getfield 214, 3) := by decide +kernel
theorem dX11_isSign_11 : decode cX11_isSign 11 = .ok (.invokestatic 180, 3) := by decide +kernel
theorem dX11_isSign_14 : decode cX11_isSign 14 = .ok (.ireturn, 1) := by decide +kernel
theorem dX11_isWalker_0 : decode cX11_isWalker 0 = .ok (.iload_n 1, 1) := by decide +kernel
theorem dX11_isWalker_1 : decode cX11_isWalker 1 = .ok (.aload_n 0, 1) := by decide +kernel
theorem dX11_isWalker_2 : decode cX11_isWalker 2 = .ok (.getfield 26, 3) := by decide +kernel
theorem dX11_isWalker_5 : decode cX11_isWalker 5 = .ok (.getfield 116, 3) := by decide +kernel
theorem dX11_isWalker_8 : decode cX11_isWalker 8 = .ok (.getfield 120, 3) := by decide +kernel
theorem dX11_isWalker_11 : decode cX11_isWalker 11 = .ok (.invokestatic 180, 3) := by decide +kernel
theorem dX11_isWalker_14 : decode cX11_isWalker 14 = .ok (.ireturn, 1) := by decide +kernel
theorem dX11_send_0 : decode cX11_send 0 = .ok (.aload_n 0, 1) := by decide +kernel
theorem dX11_send_1 : decode cX11_send 1 = .ok (.getfield 26, 3) := by decide +kernel
theorem dX11_send_4 : decode cX11_send 4 = .ok (.getfield 116, 3) := by decide +kernel
theorem dX11_send_7 : decode cX11_send 7 = .ok (.astore_n 2, 1) := by decide +kernel
theorem dX11_send_8 : decode cX11_send 8 = .ok (.aload_n 0, 1) := by decide +kernel
theorem dX11_send_9 : decode cX11_send 9 = .ok (.getfield 36, 3) := by decide +kernel
theorem dX11_send_12 : decode cX11_send 12 = .ok (.aload_n 0, 1) := by decide +kernel
theorem dX11_send_13 : decode cX11_send 13 = .ok (.getfield 26, 3) := by decide +kernel
theorem dX11_send_16 : decode cX11_send 16 = .ok (.aload_n 0, 1) := by decide +kernel
theorem dX11_send_17 : decode cX11_send 17 = .ok (.getfield 26, 3) := by decide +kernel
theorem dX11_send_20 : decode cX11_send 20 = .ok (.getfield 156, 3) := by decide +kernel
theorem dX11_send_23 : decode cX11_send 23 = .ok (.aload_n 2, 1) := by decide +kernel
theorem dX11_send_24 : decode cX11_send 24 = .ok (.getfield 170, 3) := by decide +kernel
theorem dX11_send_27 : decode cX11_send 27 = .ok (.iload_n 1, 1) := by decide +kernel
theorem dX11_send_28 : decode cX11_send 28 = .ok (.iaload, 1) := by decide +kernel
theorem dX11_send_29 : decode cX11_send 29 = .ok (.aload_n 2, 1) := by decide +kernel
theorem dX11_send_30 : decode cX11_send 30 = .ok (.getfield 173, 3) := by decide +kernel
theorem dX11_send_33 : decode cX11_send 33 = .ok (.iload_n 1, 1) := by decide +kernel
theorem dX11_send_34 : decode cX11_send 34 = .ok (.iaload, 1) := by decide +kernel
theorem dX11_send_35 : decode cX11_send 35 = .ok (.aload_n 2, 1) := by decide +kernel
theorem dX11_send_36 : decode cX11_send 36 = .ok (.getfield 176, 3) := by decide +kernel
theorem dX11_send_39 : decode cX11_send 39 = .ok (.iload_n 1, 1) := by decide +kernel
theorem dX11_send_40 : decode cX11_send 40 = .ok (.iaload, 1) := by decide +kernel
theorem dX11_send_41 : decode cX11_send 41 = .ok (.aload_n 2, 1) := by decide +kernel
theorem dX11_send_42 : decode cX11_send 42 = .ok (.getfield 177, 3) := by decide +kernel
theorem dX11_send_45 : decode cX11_send 45 = .ok (.iload_n 1, 1) := by decide +kernel
theorem dX11_send_46 : decode cX11_send 46 = .ok (.iaload, 1) := by decide +kernel
theorem dX11_send_47 : decode cX11_send 47 = .ok (.invokevirtual 254, 3) := by decide +kernel
theorem dX11_send_50 : decode cX11_send 50 = .ok (.return_, 1) := by decide +kernel
theorem dX11_taxBy_0 : decode cX11_taxBy 0 = .ok (.aload_n 0, 1) := by decide +kernel
theorem dX11_taxBy_1 : decode cX11_taxBy 1 = .ok (.getfield 26, 3) := by decide +kernel
theorem dX11_taxBy_4 : decode cX11_taxBy 4 = .ok (.getfield 116, 3) := by decide +kernel
theorem dX11_taxBy_7 : decode cX11_taxBy 7 = .ok (.astore_n 2, 1) := by decide +kernel
theorem dX11_taxBy_8 : decode cX11_taxBy 8 = .ok (.iconst 0, 1) := by decide +kernel
theorem dX11_taxBy_9 : decode cX11_taxBy 9 = .ok (.istore_n 3, 1) := by decide +kernel
theorem dX11_taxBy_10 : decode cX11_taxBy 10 = .ok (.iconst 0, 1) := by decide +kernel
theorem dX11_taxBy_11 : decode cX11_taxBy 11 = .ok (.istore 4, 2) := by decide +kernel
theorem dX11_taxBy_13 : decode cX11_taxBy 13 = .ok (.iload 4, 2) := by decide +kernel
theorem dX11_taxBy_15 : decode cX11_taxBy 15 = .ok (.aload_n 2, 1) := by decide +kernel
theorem dX11_taxBy_16 : decode cX11_taxBy 16 = .ok (.getfield 120, 3) := by decide +kernel
theorem dX11_taxBy_19 : decode cX11_taxBy 19 = .ok (.if_icmp .ge 59, 3) := by decide +kernel
theorem dX11_taxBy_22 : decode cX11_taxBy 22 = .ok (.aload_n 0, 1) := by decide +kernel
theorem dX11_taxBy_23 : decode cX11_taxBy 23 = .ok (.getfield 36, 3) := by decide +kernel
theorem dX11_taxBy_26 : decode cX11_taxBy 26 = .ok (.aload_n 0, 1) := by decide +kernel
theorem dX11_taxBy_27 : decode cX11_taxBy 27 = .ok (.getfield 26, 3) := by decide +kernel
theorem dX11_taxBy_30 : decode cX11_taxBy 30 = .ok (.aload_n 1, 1) := by decide +kernel
theorem dX11_taxBy_31 : decode cX11_taxBy 31 = .ok (.aload_n 2, 1) := by decide +kernel
theorem dX11_taxBy_32 : decode cX11_taxBy 32 = .ok (.getfield 170, 3) := by decide +kernel
theorem dX11_taxBy_35 : decode cX11_taxBy 35 = .ok (.iload 4, 2) := by decide +kernel
theorem dX11_taxBy_37 : decode cX11_taxBy 37 = .ok (.iaload, 1) := by decide +kernel
theorem dX11_taxBy_38 : decode cX11_taxBy 38 = .ok (.aload_n 2, 1) := by decide +kernel
theorem dX11_taxBy_39 : decode cX11_taxBy 39 = .ok (.getfield 173, 3) := by decide +kernel
theorem dX11_taxBy_42 : decode cX11_taxBy 42 = .ok (.iload 4, 2) := by decide +kernel
theorem dX11_taxBy_44 : decode cX11_taxBy 44 = .ok (.iaload, 1) := by decide +kernel
theorem dX11_taxBy_45 : decode cX11_taxBy 45 = .ok (.aload_n 2, 1) := by decide +kernel
theorem dX11_taxBy_46 : decode cX11_taxBy 46 = .ok (.getfield 176, 3) := by decide +kernel
theorem dX11_taxBy_49 : decode cX11_taxBy 49 = .ok (.iload 4, 2) := by decide +kernel
theorem dX11_taxBy_51 : decode cX11_taxBy 51 = .ok (.iaload, 1) := by decide +kernel
theorem dX11_taxBy_52 : decode cX11_taxBy 52 = .ok (.aload_n 2, 1) := by decide +kernel
theorem dX11_taxBy_53 : decode cX11_taxBy 53 = .ok (.getfield 177, 3) := by decide +kernel
theorem dX11_taxBy_56 : decode cX11_taxBy 56 = .ok (.iload 4, 2) := by decide +kernel
theorem dX11_taxBy_58 : decode cX11_taxBy 58 = .ok (.iaload, 1) := by decide +kernel
end
section
theorem dX11_taxBy_59 : decode cX11_taxBy 59 = .ok (.invokevirtual 254, 3) := by decide +kernel
theorem dX11_taxBy_62 : decode cX11_taxBy 62 = .ok (.iload_n 3, 1) := by decide +kernel
theorem dX11_taxBy_63 : decode cX11_taxBy 63 = .ok (.aload_n 0, 1) := by decide +kernel
theorem dX11_taxBy_64 : decode cX11_taxBy 64 = .ok (.getfield 36, 3) := by decide +kernel
theorem dX11_taxBy_67 : decode cX11_taxBy 67 = .ok (.getfield 200, 3) := by decide +kernel
theorem dX11_taxBy_70 : decode cX11_taxBy 70 = .ok (.iadd, 1) := by decide +kernel
theorem dX11_taxBy_71 : decode cX11_taxBy 71 = .ok (.istore_n 3, 1) := by decide +kernel
theorem dX11_taxBy_72 : decode cX11_taxBy 72 = .ok (.iinc 4 1, 3) := by decide +kernel
theorem dX11_taxBy_75 : decode cX11_taxBy 75 = .ok (.goto (-62), 3) := by decide +kernel
theorem dX11_taxBy_78 : decode cX11_taxBy 78 = .ok (.iload_n 3, 1) := by decide +kernel
theorem dX11_taxBy_79 : decode cX11_taxBy 79 = .ok (.ireturn, 1) := by decide +kernel
theorem dX11_offerLures_0 : decode cX11_offerLures 0 = .ok (.aload_n 0, 1) := by decide +kernel
theorem dX11_offerLures_1 : decode cX11_offerLures 1 = .ok (.getfield 43, 3) := by decide +kernel
theorem dX11_offerLures_4 : decode cX11_offerLures 4 = .ok (.getfield 214, 3) := by decide +kernel
theorem dX11_offerLures_7 : decode cX11_offerLures 7 = .ok (.istore 4, 2) := by decide +kernel
theorem dX11_offerLures_9 : decode cX11_offerLures 9 = .ok (.iconst 0, 1) := by decide +kernel
theorem dX11_offerLures_10 : decode cX11_offerLures 10 = .ok (.istore 5, 2) := by decide +kernel
theorem dX11_offerLures_12 : decode cX11_offerLures 12 = .ok (.iload 5, 2) := by decide +kernel
theorem dX11_offerLures_14 : decode cX11_offerLures 14 = .ok (.aload_n 0, 1) := by decide +kernel
theorem dX11_offerLures_15 : decode cX11_offerLures 15 = .ok (.getfield 26, 3) := by decide +kernel
theorem dX11_offerLures_18 : decode cX11_offerLures 18 = .ok (.getfield 125, 3) := by decide +kernel
theorem dX11_offerLures_21 : decode cX11_offerLures 21 = .ok (.getfield 143, 3) := by decide +kernel
theorem dX11_offerLures_24 : decode cX11_offerLures 24 = .ok (.if_icmp .ge 86, 3) := by decide +kernel
theorem dX11_offerLures_27 : decode cX11_offerLures 27 = .ok (.aload_n 0, 1) := by decide +kernel
theorem dX11_offerLures_28 : decode cX11_offerLures 28 = .ok (.getfield 26, 3) := by decide +kernel
theorem dX11_offerLures_31 : decode cX11_offerLures 31 = .ok (.getfield 125, 3) := by decide +kernel
theorem dX11_offerLures_34 : decode cX11_offerLures 34 = .ok (.getfield 150, 3) := by decide +kernel
theorem dX11_offerLures_37 : decode cX11_offerLures 37 = .ok (.iload_n 1, 1) := by decide +kernel
theorem dX11_offerLures_38 : decode cX11_offerLures 38 = .ok (.aaload, 1) := by decide +kernel
theorem dX11_offerLures_39 : decode cX11_offerLures 39 = .ok (.iload 5, 2) := by decide +kernel
theorem dX11_offerLures_41 : decode cX11_offerLures 41 = .ok (.iaload, 1) := by decide +kernel
theorem dX11_offerLures_42 : decode cX11_offerLures 42 = .ok (.ifCond .le 62, 3) := by decide +kernel
theorem dX11_offerLures_45 : decode cX11_offerLures 45 = .ok (.aload_n 0, 1) := by decide +kernel
theorem dX11_offerLures_46 : decode cX11_offerLures 46 = .ok (.getfield 43, 3) := by decide +kernel
theorem dX11_offerLures_49 : decode cX11_offerLures 49 = .ok (.iload 4, 2) := by decide +kernel
theorem dX11_offerLures_51 : decode cX11_offerLures 51 = .ok (.iload_n 1, 1) := by decide +kernel
theorem dX11_offerLures_52 : decode cX11_offerLures 52 = .ok (.iload_n 2, 1) := by decide +kernel
theorem dX11_offerLures_53 : decode cX11_offerLures 53 = .ok (.iload 5, 2) := by decide +kernel
theorem dX11_offerLures_55 : decode cX11_offerLures 55 = .ok (.invokevirtual 219, 3) := by decide +kernel
theorem dX11_offerLures_58 : decode cX11_offerLures 58 = .ok (.aload_n 0, 1) := by decide +kernel
theorem dX11_offerLures_59 : decode cX11_offerLures 59 = .ok (.aload_n 0, 1) := by decide +kernel
theorem dX11_offerLures_60 : decode cX11_offerLures 60 = .ok (.getfield 43, 3) := by decide +kernel
theorem dX11_offerLures_63 : decode cX11_offerLures 63 = .ok (.invokevirtual 210, 3) := by decide +kernel
theorem dX11_offerLures_66 : decode cX11_offerLures 66 = .ok (.istore 6, 2) := by decide +kernel
theorem dX11_offerLures_68 : decode cX11_offerLures 68 = .ok (.aload_n 0, 1) := by decide +kernel
theorem dX11_offerLures_69 : decode cX11_offerLures 69 = .ok (.getfield 43, 3) := by decide +kernel
theorem dX11_offerLures_72 : decode cX11_offerLures 72 = .ok (.iload 4, 2) := by decide +kernel
theorem dX11_offerLures_74 : decode cX11_offerLures 74 = .ok (.invokevirtual 223, 3) := by decide +kernel
theorem dX11_offerLures_77 : decode cX11_offerLures 77 = .ok (.iload 6, 2) := by decide +kernel
theorem dX11_offerLures_79 : decode cX11_offerLures 79 = .ok (.iload_n 3, 1) := by decide +kernel
theorem dX11_offerLures_80 : decode cX11_offerLures 80 = .ok (.if_icmp .le 24, 3) := by decide +kernel
theorem dX11_offerLures_83 : decode cX11_offerLures 83 = .ok (.aload_n 0, 1) := by decide +kernel
theorem dX11_offerLures_84 : decode cX11_offerLures 84 = .ok (.getfield 71, 3) := by decide +kernel
theorem dX11_offerLures_87 : decode cX11_offerLures 87 = .ok (.bipush 100, 2) := by decide +kernel
theorem dX11_offerLures_89 : decode cX11_offerLures 89 = .ok (.iload_n 1, 1) := by decide +kernel
theorem dX11_offerLures_90 : decode cX11_offerLures 90 = .ok (.imul, 1) := by decide +kernel
theorem dX11_offerLures_91 : decode cX11_offerLures 91 = .ok (.bipush 10, 2) := by decide +kernel
theorem dX11_offerLures_93 : decode cX11_offerLures 93 = .ok (.iload_n 2, 1) := by decide +kernel
theorem dX11_offerLures_94 : decode cX11_offerLures 94 = .ok (.imul, 1) := by decide +kernel
theorem dX11_offerLures_95 : decode cX11_offerLures 95 = .ok (.iadd, 1) := by decide +kernel
theorem dX11_offerLures_96 : decode cX11_offerLures 96 = .ok (.iload 5, 2) := by decide +kernel
theorem dX11_offerLures_98 : decode cX11_offerLures 98 = .ok (.iadd, 1) := by decide +kernel
theorem dX11_offerLures_99 : decode cX11_offerLures 99 = .ok (.iload 6, 2) := by decide +kernel
theorem dX11_offerLures_101 : decode cX11_offerLures 101 = .ok (.invokevirtual 268, 3) := by decide +kernel
theorem dX11_offerLures_104 : decode cX11_offerLures 104 = .ok (.iinc 5 1, 3) := by decide +kernel
theorem dX11_offerLures_107 : decode cX11_offerLures 107 = .ok (.goto (-95), 3) := by decide +kernel
theorem dX11_offerLures_110 : decode cX11_offerLures 110 = .ok (.return_, 1) := by decide +kernel
theorem dX11_taxOfSet_0 : decode cX11_taxOfSet 0 = .ok (.iconst 0, 1) := by decide +kernel
theorem dX11_taxOfSet_1 : decode cX11_taxOfSet 1 = .ok (.istore_n 3, 1) := by decide +kernel
theorem dX11_taxOfSet_2 : decode cX11_taxOfSet 2 = .ok (.iconst 0, 1) := by decide +kernel
theorem dX11_taxOfSet_3 : decode cX11_taxOfSet 3 = .ok (.istore 4, 2) := by decide +kernel
theorem dX11_taxOfSet_5 : decode cX11_taxOfSet 5 = .ok (.iload 4, 2) := by decide +kernel
theorem dX11_taxOfSet_7 : decode cX11_taxOfSet 7 = .ok (.iload_n 2, 1) := by decide +kernel
theorem dX11_taxOfSet_8 : decode cX11_taxOfSet 8 = .ok (.if_icmp .ge 29, 3) := by decide +kernel
theorem dX11_taxOfSet_11 : decode cX11_taxOfSet 11 = .ok (.iload_n 1, 1) := by decide +kernel
theorem dX11_taxOfSet_12 : decode cX11_taxOfSet 12 = .ok (.iload 4, 2) := by decide +kernel
theorem dX11_taxOfSet_14 : decode cX11_taxOfSet 14 = .ok (.ishr, 1) := by decide +kernel
theorem dX11_taxOfSet_15 : decode cX11_taxOfSet 15 = .ok (.iconst 1, 1) := by decide +kernel
theorem dX11_taxOfSet_16 : decode cX11_taxOfSet 16 = .ok (.iand, 1) := by decide +kernel
theorem dX11_taxOfSet_17 : decode cX11_taxOfSet 17 = .ok (.iconst 1, 1) := by decide +kernel
theorem dX11_taxOfSet_18 : decode cX11_taxOfSet 18 = .ok (.if_icmp .ne 13, 3) := by decide +kernel
theorem dX11_taxOfSet_21 : decode cX11_taxOfSet 21 = .ok (.iload_n 3, 1) := by decide +kernel
theorem dX11_taxOfSet_22 : decode cX11_taxOfSet 22 = .ok (.aload_n 0, 1) := by decide +kernel
theorem dX11_taxOfSet_23 : decode cX11_taxOfSet 23 = .ok (.getfield 84, 3) := by decide +kernel
theorem dX11_taxOfSet_26 : decode cX11_taxOfSet 26 = .ok (.iload 4, 2) := by decide +kernel
theorem dX11_taxOfSet_28 : decode cX11_taxOfSet 28 = .ok (.iaload, 1) := by decide +kernel
theorem dX11_taxOfSet_29 : decode cX11_taxOfSet 29 = .ok (.iadd, 1) := by decide +kernel
theorem dX11_taxOfSet_30 : decode cX11_taxOfSet 30 = .ok (.istore_n 3, 1) := by decide +kernel
theorem dX11_taxOfSet_31 : decode cX11_taxOfSet 31 = .ok (.iinc 4 1, 3) := by decide +kernel
theorem dX11_taxOfSet_34 : decode cX11_taxOfSet 34 = .ok (.goto (-29), 3) := by decide +kernel
theorem dX11_taxOfSet_37 : decode cX11_taxOfSet 37 = .ok (.iload_n 3, 1) := by decide +kernel
theorem dX11_taxOfSet_38 : decode cX11_taxOfSet 38 = .ok (.ireturn, 1) := by decide +kernel
theorem dX11_weightOfTurned_0 : decode cX11_weightOfTurned 0 = .ok (.iconst 1, 1) := by decide +kernel
theorem dX11_weightOfTurned_1 : decode cX11_weightOfTurned 1 = .ok (.istore_n 3, 1) := by decide +kernel
theorem dX11_weightOfTurned_2 : decode cX11_weightOfTurned 2 = .ok (.iconst 0, 1) := by decide +kernel
theorem dX11_weightOfTurned_3 : decode cX11_weightOfTurned 3 = .ok (.istore 4, 2) := by decide +kernel
theorem dX11_weightOfTurned_5 : decode cX11_weightOfTurned 5 = .ok (.iload 4, 2) := by decide +kernel
theorem dX11_weightOfTurned_7 : decode cX11_weightOfTurned 7 = .ok (.iload_n 1, 1) := by decide +kernel
theorem dX11_weightOfTurned_8 : decode cX11_weightOfTurned 8 = .ok (.if_icmp .ge 30, 3) := by decide +kernel
theorem dX11_weightOfTurned_11 : decode cX11_weightOfTurned 11 = .ok (.iload_n 3, 1) := by decide +kernel
theorem dX11_weightOfTurned_12 : decode cX11_weightOfTurned 12 = .ok (.iload_n 0, 1) := by decide +kernel
theorem dX11_weightOfTurned_13 : decode cX11_weightOfTurned 13 = .ok (.iload 4, 2) := by decide +kernel
theorem dX11_weightOfTurned_15 : decode cX11_weightOfTurned 15 = .ok (.ishr, 1) := by decide +kernel
theorem dX11_weightOfTurned_16 : decode cX11_weightOfTurned 16 = .ok (.iconst 1, 1) := by decide +kernel
theorem dX11_weightOfTurned_17 : decode cX11_weightOfTurned 17 = .ok (.iand, 1) := by decide +kernel
theorem dX11_weightOfTurned_18 : decode cX11_weightOfTurned 18 = .ok (.iconst 1, 1) := by decide +kernel
theorem dX11_weightOfTurned_19 : decode cX11_weightOfTurned 19 = .ok (.if_icmp .ne 7, 3) := by decide +kernel
theorem dX11_weightOfTurned_22 : decode cX11_weightOfTurned 22 = .ok (.iload_n 2, 1) := by decide +kernel
theorem dX11_weightOfTurned_23 : decode cX11_weightOfTurned 23 = .ok (.goto 7, 3) := by decide +kernel
theorem dX11_weightOfTurned_26 : decode cX11_weightOfTurned 26 = .ok (.bipush 10, 2) := by decide +kernel
theorem dX11_weightOfTurned_28 : decode cX11_weightOfTurned 28 = .ok (.iload_n 2, 1) := by decide +kernel
theorem dX11_weightOfTurned_29 : decode cX11_weightOfTurned 29 = .ok (.isub, 1) := by decide +kernel
theorem dX11_weightOfTurned_30 : decode cX11_weightOfTurned 30 = .ok (.imul, 1) := by decide +kernel
theorem dX11_weightOfTurned_31 : decode cX11_weightOfTurned 31 = .ok (.istore_n 3, 1) := by decide +kernel
theorem dX11_weightOfTurned_32 : decode cX11_weightOfTurned 32 = .ok (.iinc 4 1, 3) := by decide +kernel
theorem dX11_weightOfTurned_35 : decode cX11_weightOfTurned 35 = .ok (.goto (-30), 3) := by decide +kernel
theorem dX11_weightOfTurned_38 : decode cX11_weightOfTurned 38 = .ok (.iload_n 3, 1) := by decide +kernel
theorem dX11_weightOfTurned_39 : decode cX11_weightOfTurned 39 = .ok (.ireturn, 1) := by decide +kernel
theorem dX11_turnSigns_0 : decode cX11_turnSigns 0 = .ok (.aload_n 0, 1) := by decide +kernel
theorem dX11_turnSigns_1 : decode cX11_turnSigns 1 = .ok (.getfield 43, 3) := by decide +kernel
theorem dX11_turnSigns_4 : decode cX11_turnSigns 4 = .ok (.aload_n 0, 1) := by decide +kernel
theorem dX11_turnSigns_5 : decode cX11_turnSigns 5 = .ok (.getfield 26, 3) := by decide +kernel
theorem dX11_turnSigns_8 : decode cX11_turnSigns 8 = .ok (.getfield 156, 3) := by decide +kernel
theorem dX11_turnSigns_11 : decode cX11_turnSigns 11 = .ok (.invokevirtual 236, 3) := by decide +kernel
theorem dX11_turnSigns_14 : decode cX11_turnSigns 14 = .ok (.iconst 0, 1) := by decide +kernel
theorem dX11_turnSigns_15 : decode cX11_turnSigns 15 = .ok (.istore_n 3, 1) := by decide +kernel
theorem dX11_turnSigns_16 : decode cX11_turnSigns 16 = .ok (.iload_n 3, 1) := by decide +kernel
theorem dX11_turnSigns_17 : decode cX11_turnSigns 17 = .ok (.iload_n 2, 1) := by decide +kernel
theorem dX11_turnSigns_18 : decode cX11_turnSigns 18 = .ok (.if_icmp .ge 55, 3) := by decide +kernel
theorem dX11_turnSigns_21 : decode cX11_turnSigns 21 = .ok (.iload_n 1, 1) := by decide +kernel
theorem dX11_turnSigns_22 : decode cX11_turnSigns 22 = .ok (.iload_n 3, 1) := by decide +kernel
theorem dX11_turnSigns_23 : decode cX11_turnSigns 23 = .ok (.ishr, 1) := by decide +kernel
theorem dX11_turnSigns_24 : decode cX11_turnSigns 24 = .ok (.iconst 1, 1) := by decide +kernel
theorem dX11_turnSigns_25 : decode cX11_turnSigns 25 = .ok (.iand, 1) := by decide +kernel
theorem dX11_turnSigns_26 : decode cX11_turnSigns 26 = .ok (.iconst 1, 1) := by decide +kernel
theorem dX11_turnSigns_27 : decode cX11_turnSigns 27 = .ok (.if_icmp .ne 40, 3) := by decide +kernel
theorem dX11_turnSigns_30 : decode cX11_turnSigns 30 = .ok (.aload_n 0, 1) := by decide +kernel
theorem dX11_turnSigns_31 : decode cX11_turnSigns 31 = .ok (.getfield 43, 3) := by decide +kernel
theorem dX11_turnSigns_34 : decode cX11_turnSigns 34 = .ok (.getfield 164, 3) := by decide +kernel
theorem dX11_turnSigns_37 : decode cX11_turnSigns 37 = .ok (.iload_n 3, 1) := by decide +kernel
theorem dX11_turnSigns_38 : decode cX11_turnSigns 38 = .ok (.aload_n 0, 1) := by decide +kernel
theorem dX11_turnSigns_39 : decode cX11_turnSigns 39 = .ok (.getfield 26, 3) := by decide +kernel
theorem dX11_turnSigns_42 : decode cX11_turnSigns 42 = .ok (.getfield 125, 3) := by decide +kernel
theorem dX11_turnSigns_45 : decode cX11_turnSigns 45 = .ok (.aload_n 0, 1) := by decide +kernel
theorem dX11_turnSigns_46 : decode cX11_turnSigns 46 = .ok (.getfield 43, 3) := by decide +kernel
theorem dX11_turnSigns_49 : decode cX11_turnSigns 49 = .ok (.getfield 159, 3) := by decide +kernel
theorem dX11_turnSigns_52 : decode cX11_turnSigns 52 = .ok (.iload_n 3, 1) := by decide +kernel
theorem dX11_turnSigns_53 : decode cX11_turnSigns 53 = .ok (.iaload, 1) := by decide +kernel
theorem dX11_turnSigns_54 : decode cX11_turnSigns 54 = .ok (.aload_n 0, 1) := by decide +kernel
theorem dX11_turnSigns_55 : decode cX11_turnSigns 55 = .ok (.getfield 43, 3) := by decide +kernel
theorem dX11_turnSigns_58 : decode cX11_turnSigns 58 = .ok (.getfield 164, 3) := by decide +kernel
theorem dX11_turnSigns_61 : decode cX11_turnSigns 61 = .ok (.iload_n 3, 1) := by decide +kernel
theorem dX11_turnSigns_62 : decode cX11_turnSigns 62 = .ok (.iaload, 1) := by decide +kernel
theorem dX11_turnSigns_63 : decode cX11_turnSigns 63 = .ok (.invokevirtual 314, 3) := by decide +kernel
theorem dX11_turnSigns_66 : decode cX11_turnSigns 66 = .ok (.iastore, 1) := by decide +kernel
theorem dX11_turnSigns_67 : decode cX11_turnSigns 67 = .ok (.iinc 3 1, 3) := by decide +kernel
theorem dX11_turnSigns_70 : decode cX11_turnSigns 70 = .ok (.goto (-54), 3) := by decide +kernel
theorem dX11_turnSigns_73 : decode cX11_turnSigns 73 = .ok (.return_, 1) := by decide +kernel
theorem dX11_commonDivisor_0 : decode cX11_commonDivisor 0 = .ok (.iload_n 0, 1) := by decide +kernel
theorem dX11_commonDivisor_1 : decode cX11_commonDivisor 1 = .ok (.istore_n 2, 1) := by decide +kernel
theorem dX11_commonDivisor_2 : decode cX11_commonDivisor 2 = .ok (.iload_n 1, 1) := by decide +kernel
theorem dX11_commonDivisor_3 : decode cX11_commonDivisor 3 = .ok (.istore_n 3, 1) := by decide +kernel
theorem dX11_commonDivisor_4 : decode cX11_commonDivisor 4 = .ok (.iconst 0, 1) := by decide +kernel
theorem dX11_commonDivisor_5 : decode cX11_commonDivisor 5 = .ok (.istore 4, 2) := by decide +kernel
theorem dX11_commonDivisor_7 : decode cX11_commonDivisor 7 = .ok (.iload 4, 2) := by decide +kernel
theorem dX11_commonDivisor_9 : decode cX11_commonDivisor 9 = .ok (.bipush 100, 2) := by decide +kernel
theorem dX11_commonDivisor_11 : decode cX11_commonDivisor 11 = .ok (.if_icmp .ge 23, 3) := by decide +kernel
theorem dX11_commonDivisor_14 : decode cX11_commonDivisor 14 = .ok (.iload_n 3, 1) := by decide +kernel
theorem dX11_commonDivisor_15 : decode cX11_commonDivisor 15 = .ok (.ifCond .eq 19, 3) := by decide +kernel
theorem dX11_commonDivisor_18 : decode cX11_commonDivisor 18 = .ok (.iload_n 2, 1) := by decide +kernel
theorem dX11_commonDivisor_19 : decode cX11_commonDivisor 19 = .ok (.iload_n 3, 1) := by decide +kernel
theorem dX11_commonDivisor_20 : decode cX11_commonDivisor 20 = .ok (.irem, 1) := by decide +kernel
theorem dX11_commonDivisor_21 : decode cX11_commonDivisor 21 = .ok (.istore 5, 2) := by decide +kernel
theorem dX11_commonDivisor_23 : decode cX11_commonDivisor 23 = .ok (.iload_n 3, 1) := by decide +kernel
theorem dX11_commonDivisor_24 : decode cX11_commonDivisor 24 = .ok (.istore_n 2, 1) := by decide +kernel
theorem dX11_commonDivisor_25 : decode cX11_commonDivisor 25 = .ok (.iload 5, 2) := by decide +kernel
theorem dX11_commonDivisor_27 : decode cX11_commonDivisor 27 = .ok (.istore_n 3, 1) := by decide +kernel
theorem dX11_commonDivisor_28 : decode cX11_commonDivisor 28 = .ok (.iinc 4 1, 3) := by decide +kernel
theorem dX11_commonDivisor_31 : decode cX11_commonDivisor 31 = .ok (.goto (-24), 3) := by decide +kernel
theorem dX11_commonDivisor_34 : decode cX11_commonDivisor 34 = .ok (.iconst 1, 1) := by decide +kernel
theorem dX11_commonDivisor_35 : decode cX11_commonDivisor 35 = .ok (.iload_n 2, 1) := by decide +kernel
theorem dX11_commonDivisor_36 : decode cX11_commonDivisor 36 = .ok (.invokestatic 302, 3) := by decide +kernel
theorem dX11_commonDivisor_39 : decode cX11_commonDivisor 39 = .ok (.ireturn, 1) := by decide +kernel
theorem dX11_drawOf_0 : decode cX11_drawOf 0 = .ok (.ldc2_w 317, 3) := by decide +kernel
theorem dX11_drawOf_3 : decode cX11_drawOf 3 = .ok (.iload_n 0, 1) := by decide +kernel
theorem dX11_drawOf_4 : decode cX11_drawOf 4 = .ok (.i2l, 1) := by decide +kernel
theorem dX11_drawOf_5 : decode cX11_drawOf 5 = .ok (.lmul, 1) := by decide +kernel
theorem dX11_drawOf_6 : decode cX11_drawOf 6 = .ok (.ldc2_w 319, 3) := by decide +kernel
theorem dX11_drawOf_9 : decode cX11_drawOf 9 = .ok (.iload_n 1, 1) := by decide +kernel
theorem dX11_drawOf_10 : decode cX11_drawOf 10 = .ok (.i2l, 1) := by decide +kernel
theorem dX11_drawOf_11 : decode cX11_drawOf 11 = .ok (.lmul, 1) := by decide +kernel
theorem dX11_drawOf_12 : decode cX11_drawOf 12 = .ok (.ladd, 1) := by decide +kernel
theorem dX11_drawOf_13 : decode cX11_drawOf 13 = .ok (.lconst 1, 1) := by decide +kernel
theorem dX11_drawOf_14 : decode cX11_drawOf 14 = .ok (.ladd, 1) := by decide +kernel
theorem dX11_drawOf_15 : decode cX11_drawOf 15 = .ok (.lstore_n 2, 1) := by decide +kernel
theorem dX11_drawOf_16 : decode cX11_drawOf 16 = .ok (.lload_n 2, 1) := by decide +kernel
theorem dX11_drawOf_17 : decode cX11_drawOf 17 = .ok (.lload_n 2, 1) := by decide +kernel
theorem dX11_drawOf_18 : decode cX11_drawOf 18 = .ok (.lmul, 1) := by decide +kernel
theorem dX11_drawOf_19 : decode cX11_drawOf 19 = .ok (.ldc2_w 321, 3) := by decide +kernel
theorem dX11_drawOf_22 : decode cX11_drawOf 22 = .ok (.lrem, 1) := by decide +kernel
theorem dX11_drawOf_23 : decode cX11_drawOf 23 = .ok (.l2i, 1) := by decide +kernel
theorem dX11_drawOf_24 : decode cX11_drawOf 24 = .ok (.ireturn, 1) := by decide +kernel
theorem dX12_init_0 : decode cX12_init 0 = .ok (.aload_n 0, 1) := by decide +kernel
theorem dX12_init_1 : decode cX12_init 1 = .ok (.invokespecial 1, 3) := by decide +kernel
theorem dX12_init_4 : decode cX12_init 4 = .ok (.aload_n 0, 1) := by decide +kernel
theorem dX12_init_5 : decode cX12_init 5 = .ok (.sipush 200, 3) := by decide +kernel
theorem dX12_init_8 : decode cX12_init 8 = .ok (.newarray .byte, 2) := by decide +kernel
theorem dX12_init_10 : decode cX12_init 10 = .ok (.putfield 7, 3) := by decide +kernel
theorem dX12_init_13 : decode cX12_init 13 = .ok (.aload_n 0, 1) := by decide +kernel
theorem dX12_init_14 : decode cX12_init 14 = .ok (.iconst 2, 1) := by decide +kernel
theorem dX12_init_15 : decode cX12_init 15 = .ok (.newarray .int, 2) := by decide +kernel
theorem dX12_init_17 : decode cX12_init 17 = .ok (.putfield 13, 3) := by decide +kernel
theorem dX12_init_20 : decode cX12_init 20 = .ok (.aload_n 0, 1) := by decide +kernel
theorem dX12_init_21 : decode cX12_init 21 = .ok (.iconst 2, 1) := by decide +kernel
theorem dX12_init_22 : decode cX12_init 22 = .ok (.newarray .int, 2) := by decide +kernel
theorem dX12_init_24 : decode cX12_init 24 = .ok (.putfield 17, 3) := by decide +kernel
theorem dX12_init_27 : decode cX12_init 27 = .ok (.aload_n 0, 1) := by decide +kernel
theorem dX12_init_28 : decode cX12_init 28 = .ok (.bipush 24, 2) := by decide +kernel
theorem dX12_init_30 : decode cX12_init 30 = .ok (.newarray .int, 2) := by decide +kernel
theorem dX12_init_32 : decode cX12_init 32 = .ok (.putfield 20, 3) := by decide +kernel
theorem dX12_init_35 : decode cX12_init 35 = .ok (.aload_n 0, 1) := by decide +kernel
theorem dX12_init_36 : decode cX12_init 36 = .ok (.bipush 24, 2) := by decide +kernel
theorem dX12_init_38 : decode cX12_init 38 = .ok (.newarray .int, 2) := by decide +kernel
theorem dX12_init_40 : decode cX12_init 40 = .ok (.putfield 23, 3) := by decide +kernel
theorem dX12_init_43 : decode cX12_init 43 = .ok (.aload_n 0, 1) := by decide +kernel
theorem dX12_init_44 : decode cX12_init 44 = .ok (.bipush 24, 2) := by decide +kernel
theorem dX12_init_46 : decode cX12_init 46 = .ok (.newarray .int, 2) := by decide +kernel
theorem dX12_init_48 : decode cX12_init 48 = .ok (.putfield 26, 3) := by decide +kernel
theorem dX12_init_51 : decode cX12_init 51 = .ok (.aload_n 0, 1) := by decide +kernel
theorem dX12_init_52 : decode cX12_init 52 = .ok (.iconst 2, 1) := by decide +kernel
theorem dX12_init_53 : decode cX12_init 53 = .ok (.newarray .int, 2) := by decide +kernel
theorem dX12_init_55 : decode cX12_init 55 = .ok (.putfield 29, 3) := by decide +kernel
theorem dX12_init_58 : decode cX12_init 58 = .ok (.aload_n 0, 1) := by decide +kernel
theorem dX12_init_59 : decode cX12_init 59 = .ok (.bipush 8, 2) := by decide +kernel
theorem dX12_init_61 : decode cX12_init 61 = .ok (.newarray .int, 2) := by decide +kernel
theorem dX12_init_63 : decode cX12_init 63 = .ok (.putfield 32, 3) := by decide +kernel
theorem dX12_init_66 : decode cX12_init 66 = .ok (.aload_n 0, 1) := by decide +kernel
theorem dX12_init_67 : decode cX12_init 67 = .ok (.bipush 8, 2) := by decide +kernel
theorem dX12_init_69 : decode cX12_init 69 = .ok (.newarray .int, 2) := by decide +kernel
theorem dX12_init_71 : decode cX12_init 71 = .ok (.putfield 35, 3) := by decide +kernel
theorem dX12_init_74 : decode cX12_init 74 = .ok (.aload_n 0, 1) := by decide +kernel
theorem dX12_init_75 : decode cX12_init 75 = .ok (.bipush 8, 2) := by decide +kernel
theorem dX12_init_77 : decode cX12_init 77 = .ok (.newarray .int, 2) := by decide +kernel
theorem dX12_init_79 : decode cX12_init 79 = .ok (.putfield 38, 3) := by decide +kernel
theorem dX12_init_82 : decode cX12_init 82 = .ok (.aload_n 0, 1) := by decide +kernel
theorem dX12_init_83 : decode cX12_init 83 = .ok (.bipush 6, 2) := by decide +kernel
theorem dX12_init_85 : decode cX12_init 85 = .ok (.newarray .int, 2) := by decide +kernel
theorem dX12_init_87 : decode cX12_init 87 = .ok (.putfield 41, 3) := by decide +kernel
theorem dX12_init_90 : decode cX12_init 90 = .ok (.aload_n 0, 1) := by decide +kernel
theorem dX12_init_91 : decode cX12_init 91 = .ok (.bipush 24, 2) := by decide +kernel
theorem dX12_init_93 : decode cX12_init 93 = .ok (.newarray .int, 2) := by decide +kernel
theorem dX12_init_95 : decode cX12_init 95 = .ok (.putfield 44, 3) := by decide +kernel
theorem dX12_init_98 : decode cX12_init 98 = .ok (.aload_n 0, 1) := by decide +kernel
theorem dX12_init_99 : decode cX12_init 99 = .ok (.sipush 384, 3) := by decide +kernel
theorem dX12_init_102 : decode cX12_init 102 = .ok (.newarray .int, 2) := by decide +kernel
theorem dX12_init_104 : decode cX12_init 104 = .ok (.putfield 47, 3) := by decide +kernel
theorem dX12_init_107 : decode cX12_init 107 = .ok (.aload_n 0, 1) := by decide +kernel
theorem dX12_init_108 : decode cX12_init 108 = .ok (.bipush 64, 2) := by decide +kernel
theorem dX12_init_110 : decode cX12_init 110 = .ok (.newarray .int, 2) := by decide +kernel
theorem dX12_init_112 : decode cX12_init 112 = .ok (.putfield 50, 3) := by decide +kernel
theorem dX12_init_115 : decode cX12_init 115 = .ok (.aload_n 0, 1) := by decide +kernel
theorem dX12_init_116 : decode cX12_init 116 = .ok (.bipush 64, 2) := by decide +kernel
theorem dX12_init_118 : decode cX12_init 118 = .ok (.newarray .int, 2) := by decide +kernel
theorem dX12_init_120 : decode cX12_init 120 = .ok (.putfield 53, 3) := by decide +kernel
theorem dX12_init_123 : decode cX12_init 123 = .ok (.aload_n 0, 1) := by decide +kernel
theorem dX12_init_124 : decode cX12_init 124 = .ok (.bipush 31, 2) := by decide +kernel
theorem dX12_init_126 : decode cX12_init 126 = .ok (.newarray .int, 2) := by decide +kernel
theorem dX12_init_128 : decode cX12_init 128 = .ok (.putfield 56, 3) := by decide +kernel
theorem dX12_init_131 : decode cX12_init 131 = .ok (.aload_n 0, 1) := by decide +kernel
theorem dX12_init_132 : decode cX12_init 132 = .ok (.bipush 8, 2) := by decide +kernel
theorem dX12_init_134 : decode cX12_init 134 = .ok (.newarray .int, 2) := by decide +kernel
theorem dX12_init_136 : decode cX12_init 136 = .ok (.putfield 59, 3) := by decide +kernel
theorem dX12_init_139 : decode cX12_init 139 = .ok (.aload_n 0, 1) := by decide +kernel
theorem dX12_init_140 : decode cX12_init 140 = .ok (.iconst 4, 1) := by decide +kernel
theorem dX12_init_141 : decode cX12_init 141 = .ok (.newarray .int, 2) := by decide +kernel
theorem dX12_init_143 : decode cX12_init 143 = .ok (.putfield 62, 3) := by decide +kernel
theorem dX12_init_146 : decode cX12_init 146 = .ok (.aload_n 0, 1) := by decide +kernel
theorem dX12_init_147 : decode cX12_init 147 = .ok (.bipush 8, 2) := by decide +kernel
theorem dX12_init_149 : decode cX12_init 149 = .ok (.newarray .int, 2) := by decide +kernel
theorem dX12_init_151 : decode cX12_init 151 = .ok (.putfield 65, 3) := by decide +kernel
theorem dX12_init_154 : decode cX12_init 154 = .ok (.aload_n 0, 1) := by decide +kernel
theorem dX12_init_155 : decode cX12_init 155 = .ok (.bipush 8, 2) := by decide +kernel
theorem dX12_init_157 : decode cX12_init 157 = .ok (.newarray .int, 2) := by decide +kernel
theorem dX12_init_159 : decode cX12_init 159 = .ok (.putfield 68, 3) := by decide +kernel
theorem dX12_init_162 : decode cX12_init 162 = .ok (.aload_n 0, 1) := by decide +kernel
theorem dX12_init_163 : decode cX12_init 163 = .ok (.bipush 8, 2) := by decide +kernel
theorem dX12_init_165 : decode cX12_init 165 = .ok (.newarray .int, 2) := by decide +kernel
theorem dX12_init_167 : decode cX12_init 167 = .ok (.putfield 71, 3) := by decide +kernel
theorem dX12_init_170 : decode cX12_init 170 = .ok (.aload_n 0, 1) := by decide +kernel
theorem dX12_init_171 : decode cX12_init 171 = .ok (.getfield 13, 3) := by decide +kernel
theorem dX12_init_174 : decode cX12_init 174 = .ok (.iconst 1, 1) := by decide +kernel
theorem dX12_init_175 : decode cX12_init 175 = .ok (.bipush 6, 2) := by decide +kernel
theorem dX12_init_177 : decode cX12_init 177 = .ok (.iastore, 1) := by decide +kernel
theorem dX12_init_178 : decode cX12_init 178 = .ok (.aload_n 0, 1) := by decide +kernel
theorem dX12_init_179 : decode cX12_init 179 = .ok (.iconst 0, 1) := by decide +kernel
theorem dX12_init_180 : decode cX12_init 180 = .ok (.iconst 1, 1) := by decide +kernel
theorem dX12_init_181 : decode cX12_init 181 = .ok (.iconst 3, 1) := by decide +kernel
theorem dX12_init_182 : decode cX12_init 182 = .ok (.invokevirtual 74, 3) := by decide +kernel
theorem dX12_init_185 : decode cX12_init 185 = .ok (.aload_n 0, 1) := by decide +kernel
theorem dX12_init_186 : decode cX12_init 186 = .ok (.iconst 1, 1) := by decide +kernel
theorem dX12_init_187 : decode cX12_init 187 = .ok (.iconst 2, 1) := by decide +kernel
theorem dX12_init_188 : decode cX12_init 188 = .ok (.iconst 4, 1) := by decide +kernel
theorem dX12_init_189 : decode cX12_init 189 = .ok (.invokevirtual 74, 3) := by decide +kernel
theorem dX12_init_192 : decode cX12_init 192 = .ok (.aload_n 0, 1) := by decide +kernel
theorem dX12_init_193 : decode cX12_init 193 = .ok (.iconst 2, 1) := by decide +kernel
theorem dX12_init_194 : decode cX12_init 194 = .ok (.iconst 3, 1) := by decide +kernel
theorem dX12_init_195 : decode cX12_init 195 = .ok (.iconst 2, 1) := by decide +kernel
theorem dX12_init_196 : decode cX12_init 196 = .ok (.invokevirtual 74, 3) := by decide +kernel
theorem dX12_init_199 : decode cX12_init 199 = .ok (.aload_n 0, 1) := by decide +kernel
theorem dX12_init_200 : decode cX12_init 200 = .ok (.iconst 0, 1) := by decide +kernel
theorem dX12_init_201 : decode cX12_init 201 = .ok (.iconst 4, 1) := by decide +kernel
theorem dX12_init_202 : decode cX12_init 202 = .ok (.iconst 5, 1) := by decide +kernel
theorem dX12_init_203 : decode cX12_init 203 = .ok (.invokevirtual 74, 3) := by decide +kernel
theorem dX12_init_206 : decode cX12_init 206 = .ok (.aload_n 0, 1) := by decide +kernel
theorem dX12_init_207 : decode cX12_init 207 = .ok (.iconst 4, 1) := by decide +kernel
theorem dX12_init_208 : decode cX12_init 208 = .ok (.iconst 3, 1) := by decide +kernel
theorem dX12_init_209 : decode cX12_init 209 = .ok (.bipush 6, 2) := by decide +kernel
theorem dX12_init_211 : decode cX12_init 211 = .ok (.invokevirtual 74, 3) := by decide +kernel
theorem dX12_init_214 : decode cX12_init 214 = .ok (.aload_n 0, 1) := by decide +kernel
theorem dX12_init_215 : decode cX12_init 215 = .ok (.iconst 1, 1) := by decide +kernel
theorem dX12_init_216 : decode cX12_init 216 = .ok (.iconst 4, 1) := by decide +kernel
theorem dX12_init_217 : decode cX12_init 217 = .ok (.iconst 1, 1) := by decide +kernel
theorem dX12_init_218 : decode cX12_init 218 = .ok (.invokevirtual 74, 3) := by decide +kernel
theorem dX12_init_221 : decode cX12_init 221 = .ok (.aload_n 0, 1) := by decide +kernel
theorem dX12_init_222 : decode cX12_init 222 = .ok (.iconst 3, 1) := by decide +kernel
theorem dX12_init_223 : decode cX12_init 223 = .ok (.iconst 5, 1) := by decide +kernel
theorem dX12_init_224 : decode cX12_init 224 = .ok (.iconst 2, 1) := by decide +kernel
theorem dX12_init_225 : decode cX12_init 225 = .ok (.invokevirtual 74, 3) := by decide +kernel
theorem dX12_init_228 : decode cX12_init 228 = .ok (.aload_n 0, 1) := by decide +kernel
theorem dX12_init_229 : decode cX12_init 229 = .ok (.iconst 1, 1) := by decide +kernel
theorem dX12_init_230 : decode cX12_init 230 = .ok (.iconst 5, 1) := by decide +kernel
theorem dX12_init_231 : decode cX12_init 231 = .ok (.iconst 4, 1) := by decide +kernel
theorem dX12_init_232 : decode cX12_init 232 = .ok (.invokevirtual 78, 3) := by decide +kernel
theorem dX12_init_235 : decode cX12_init 235 = .ok (.aload_n 0, 1) := by decide +kernel
theorem dX12_init_236 : decode cX12_init 236 = .ok (.iconst 4, 1) := by decide +kernel
theorem dX12_init_237 : decode cX12_init 237 = .ok (.iconst 5, 1) := by decide +kernel
theorem dX12_init_238 : decode cX12_init 238 = .ok (.iconst 3, 1) := by decide +kernel
theorem dX12_init_239 : decode cX12_init 239 = .ok (.invokevirtual 78, 3) := by decide +kernel
theorem dX12_init_242 : decode cX12_init 242 = .ok (.aload_n 0, 1) := by decide +kernel
theorem dX12_init_243 : decode cX12_init 243 = .ok (.iconst 2, 1) := by decide +kernel
theorem dX12_init_244 : decode cX12_init 244 = .ok (.iconst 5, 1) := by decide +kernel
theorem dX12_init_245 : decode cX12_init 245 = .ok (.iconst 1, 1) := by decide +kernel
theorem dX12_init_246 : decode cX12_init 246 = .ok (.invokevirtual 78, 3) := by decide +kernel
theorem dX12_init_249 : decode cX12_init 249 = .ok (.aload_n 0, 1) := by decide +kernel
theorem dX12_init_250 : decode cX12_init 250 = .ok (.iconst 0, 1) := by decide +kernel
theorem dX12_init_251 : decode cX12_init 251 = .ok (.iconst 0, 1) := by decide +kernel
theorem dX12_init_252 : decode cX12_init 252 = .ok (.iconst 5, 1) := by decide +kernel
theorem dX12_init_253 : decode cX12_init 253 = .ok (.invokevirtual 81, 3) := by decide +kernel
theorem dX12_init_256 : decode cX12_init 256 = .ok (.aload_n 0, 1) := by decide +kernel
theorem dX12_init_257 : decode cX12_init 257 = .ok (.iconst 1, 1) := by decide +kernel
theorem dX12_init_258 : decode cX12_init 258 = .ok (.iconst 0, 1) := by decide +kernel
theorem dX12_init_259 : decode cX12_init 259 = .ok (.iconst 5, 1) := by decide +kernel
theorem dX12_init_260 : decode cX12_init 260 = .ok (.invokevirtual 81, 3) := by decide +kernel
theorem dX12_init_263 : decode cX12_init 263 = .ok (.aload_n 0, 1) := by decide +kernel
theorem dX12_init_264 : decode cX12_init 264 = .ok (.iconst 2, 1) := by decide +kernel
theorem dX12_init_265 : decode cX12_init 265 = .ok (.iconst 2, 1) := by decide +kernel
theorem dX12_init_266 : decode cX12_init 266 = .ok (.iconst 0, 1) := by decide +kernel
theorem dX12_init_267 : decode cX12_init 267 = .ok (.invokevirtual 81, 3) := by decide +kernel
theorem dX12_init_270 : decode cX12_init 270 = .ok (.aload_n 0, 1) := by decide +kernel
theorem dX12_init_271 : decode cX12_init 271 = .ok (.iconst 3, 1) := by decide +kernel
theorem dX12_init_272 : decode cX12_init 272 = .ok (.iconst 0, 1) := by decide +kernel
theorem dX12_init_273 : decode cX12_init 273 = .ok (.iconst 5, 1) := by decide +kernel
theorem dX12_init_274 : decode cX12_init 274 = .ok (.invokevirtual 81, 3) := by decide +kernel
theorem dX12_init_277 : decode cX12_init 277 = .ok (.aload_n 0, 1) := by decide +kernel
theorem dX12_init_278 : decode cX12_init 278 = .ok (.iconst 2, 1) := by decide +kernel
theorem dX12_init_279 : decode cX12_init 279 = .ok (.iconst 3, 1) := by decide +kernel
theorem dX12_init_280 : decode cX12_init 280 = .ok (.iconst 1, 1) := by decide +kernel
theorem dX12_init_281 : decode cX12_init 281 = .ok (.invokevirtual 84, 3) := by decide +kernel
theorem dX12_init_284 : decode cX12_init 284 = .ok (.aload_n 0, 1) := by decide +kernel
theorem dX12_init_285 : decode cX12_init 285 = .ok (.invokevirtual 87, 3) := by decide +kernel
theorem dX12_init_288 : decode cX12_init 288 = .ok (.return_, 1) := by decide +kernel
theorem dX12_firstStreet_0 : decode cX12_firstStreet 0 = .ok (.bipush 12, 2) := by decide +kernel
theorem dX12_firstStreet_2 : decode cX12_firstStreet 2 = .ok (.aload_n 0, 1) := by decide +kernel
theorem dX12_firstStreet_3 : decode cX12_firstStreet 3 = .ok (.getfield 17, 3) := by decide +kernel
theorem dX12_firstStreet_6 : decode cX12_firstStreet 6 = .ok (.iconst 1, 1) := by decide +kernel
theorem dX12_firstStreet_7 : decode cX12_firstStreet 7 = .ok (.iaload, 1) := by decide +kernel
theorem dX12_firstStreet_8 : decode cX12_firstStreet 8 = .ok (.iadd, 1) := by decide +kernel
theorem dX12_firstStreet_9 : decode cX12_firstStreet 9 = .ok (.istore 4, 2) := by decide +kernel
theorem dX12_firstStreet_11 : decode cX12_firstStreet 11 = .ok (.aload_n 0, 1) := by decide +kernel
theorem dX12_firstStreet_12 : decode cX12_firstStreet 12 = .ok (.getfield 20, 3) := by decide +kernel
theorem dX12_firstStreet_15 : decode cX12_firstStreet 15 = .ok (.iload 4, 2) := by decide +kernel
theorem dX12_firstStreet_17 : decode cX12_firstStreet 17 = .ok (.iload_n 1, 1) := by decide +kernel
theorem dX12_firstStreet_18 : decode cX12_firstStreet 18 = .ok (.iastore, 1) := by decide +kernel
theorem dX12_firstStreet_19 : decode cX12_firstStreet 19 = .ok (.aload_n 0, 1) := by decide +kernel
theorem dX12_firstStreet_20 : decode cX12_firstStreet 20 = .ok (.getfield 23, 3) := by decide +kernel
theorem dX12_firstStreet_23 : decode cX12_firstStreet 23 = .ok (.iload 4, 2) := by decide +kernel
theorem dX12_firstStreet_25 : decode cX12_firstStreet 25 = .ok (.iload_n 2, 1) := by decide +kernel
theorem dX12_firstStreet_26 : decode cX12_firstStreet 26 = .ok (.iastore, 1) := by decide +kernel
theorem dX12_firstStreet_27 : decode cX12_firstStreet 27 = .ok (.aload_n 0, 1) := by decide +kernel
theorem dX12_firstStreet_28 : decode cX12_firstStreet 28 = .ok (.getfield 26, 3) := by decide +kernel
theorem dX12_firstStreet_31 : decode cX12_firstStreet 31 = .ok (.iload 4, 2) := by decide +kernel
theorem dX12_firstStreet_33 : decode cX12_firstStreet 33 = .ok (.iload_n 3, 1) := by decide +kernel
theorem dX12_firstStreet_34 : decode cX12_firstStreet 34 = .ok (.iastore, 1) := by decide +kernel
theorem dX12_firstStreet_35 : decode cX12_firstStreet 35 = .ok (.aload_n 0, 1) := by decide +kernel
theorem dX12_firstStreet_36 : decode cX12_firstStreet 36 = .ok (.getfield 17, 3) := by decide +kernel
theorem dX12_firstStreet_39 : decode cX12_firstStreet 39 = .ok (.iconst 1, 1) := by decide +kernel
theorem dX12_firstStreet_40 : decode cX12_firstStreet 40 = .ok (.dup2, 1) := by decide +kernel
theorem dX12_firstStreet_41 : decode cX12_firstStreet 41 = .ok (.iaload, 1) := by decide +kernel
theorem dX12_firstStreet_42 : decode cX12_firstStreet 42 = .ok (.iconst 1, 1) := by decide +kernel
theorem dX12_firstStreet_43 : decode cX12_firstStreet 43 = .ok (.iadd, 1) := by decide +kernel
theorem dX12_firstStreet_44 : decode cX12_firstStreet 44 = .ok (.iastore, 1) := by decide +kernel
theorem dX12_firstStreet_45 : decode cX12_firstStreet 45 = .ok (.return_, 1) := by decide +kernel
theorem dX12_firstSign_0 : decode cX12_firstSign 0 = .ok (.iconst 3, 1) := by decide +kernel
theorem dX12_firstSign_1 : decode cX12_firstSign 1 = .ok (.aload_n 0, 1) := by decide +kernel
theorem dX12_firstSign_2 : decode cX12_firstSign 2 = .ok (.getfield 90, 3) := by decide +kernel
theorem dX12_firstSign_5 : decode cX12_firstSign 5 = .ok (.imul, 1) := by decide +kernel
theorem dX12_firstSign_6 : decode cX12_firstSign 6 = .ok (.istore 4, 2) := by decide +kernel
theorem dX12_firstSign_8 : decode cX12_firstSign 8 = .ok (.aload_n 0, 1) := by decide +kernel
theorem dX12_firstSign_9 : decode cX12_firstSign 9 = .ok (.getfield 44, 3) := by decide +kernel
theorem dX12_firstSign_12 : decode cX12_firstSign 12 = .ok (.iload 4, 2) := by decide +kernel
theorem dX12_firstSign_14 : decode cX12_firstSign 14 = .ok (.iload_n 1, 1) := by decide +kernel
theorem dX12_firstSign_15 : decode cX12_firstSign 15 = .ok (.iastore, 1) := by decide +kernel
theorem dX12_firstSign_16 : decode cX12_firstSign 16 = .ok (.aload_n 0, 1) := by decide +kernel
theorem dX12_firstSign_17 : decode cX12_firstSign 17 = .ok (.getfield 44, 3) := by decide +kernel
theorem dX12_firstSign_20 : decode cX12_firstSign 20 = .ok (.iload 4, 2) := by decide +kernel
theorem dX12_firstSign_22 : decode cX12_firstSign 22 = .ok (.iconst 1, 1) := by decide +kernel
theorem dX12_firstSign_23 : decode cX12_firstSign 23 = .ok (.iadd, 1) := by decide +kernel
theorem dX12_firstSign_24 : decode cX12_firstSign 24 = .ok (.iload_n 2, 1) := by decide +kernel
theorem dX12_firstSign_25 : decode cX12_firstSign 25 = .ok (.iastore, 1) := by decide +kernel
theorem dX12_firstSign_26 : decode cX12_firstSign 26 = .ok (.aload_n 0, 1) := by decide +kernel
theorem dX12_firstSign_27 : decode cX12_firstSign 27 = .ok (.getfield 44, 3) := by decide +kernel
theorem dX12_firstSign_30 : decode cX12_firstSign 30 = .ok (.iload 4, 2) := by decide +kernel
theorem dX12_firstSign_32 : decode cX12_firstSign 32 = .ok (.iconst 2, 1) := by decide +kernel
theorem dX12_firstSign_33 : decode cX12_firstSign 33 = .ok (.iadd, 1) := by decide +kernel
theorem dX12_firstSign_34 : decode cX12_firstSign 34 = .ok (.iload_n 3, 1) := by decide +kernel
theorem dX12_firstSign_35 : decode cX12_firstSign 35 = .ok (.iastore, 1) := by decide +kernel
theorem dX12_firstSign_36 : decode cX12_firstSign 36 = .ok (.aload_n 0, 1) := by decide +kernel
theorem dX12_firstSign_37 : decode cX12_firstSign 37 = .ok (.dup, 1) := by decide +kernel
theorem dX12_firstSign_38 : decode cX12_firstSign 38 = .ok (.getfield 90, 3) := by decide +kernel
theorem dX12_firstSign_41 : decode cX12_firstSign 41 = .ok (.iconst 1, 1) := by decide +kernel
theorem dX12_firstSign_42 : decode cX12_firstSign 42 = .ok (.iadd, 1) := by decide +kernel
theorem dX12_firstSign_43 : decode cX12_firstSign 43 = .ok (.putfield 90, 3) := by decide +kernel
theorem dX12_firstSign_46 : decode cX12_firstSign 46 = .ok (.return_, 1) := by decide +kernel
theorem dX12_firstWalker_0 : decode cX12_firstWalker 0 = .ok (.iconst 4, 1) := by decide +kernel
theorem dX12_firstWalker_1 : decode cX12_firstWalker 1 = .ok (.aload_n 0, 1) := by decide +kernel
theorem dX12_firstWalker_2 : decode cX12_firstWalker 2 = .ok (.getfield 29, 3) := by decide +kernel
theorem dX12_firstWalker_5 : decode cX12_firstWalker 5 = .ok (.iconst 1, 1) := by decide +kernel
theorem dX12_firstWalker_6 : decode cX12_firstWalker 6 = .ok (.iaload, 1) := by decide +kernel
theorem dX12_firstWalker_7 : decode cX12_firstWalker 7 = .ok (.iadd, 1) := by decide +kernel
theorem dX12_firstWalker_8 : decode cX12_firstWalker 8 = .ok (.istore 4, 2) := by decide +kernel
theorem dX12_firstWalker_10 : decode cX12_firstWalker 10 = .ok (.aload_n 0, 1) := by decide +kernel
theorem dX12_firstWalker_11 : decode cX12_firstWalker 11 = .ok (.getfield 32, 3) := by decide +kernel
theorem dX12_firstWalker_14 : decode cX12_firstWalker 14 = .ok (.iload 4, 2) := by decide +kernel
theorem dX12_firstWalker_16 : decode cX12_firstWalker 16 = .ok (.iload_n 1, 1) := by decide +kernel
theorem dX12_firstWalker_17 : decode cX12_firstWalker 17 = .ok (.iastore, 1) := by decide +kernel
theorem dX12_firstWalker_18 : decode cX12_firstWalker 18 = .ok (.aload_n 0, 1) := by decide +kernel
theorem dX12_firstWalker_19 : decode cX12_firstWalker 19 = .ok (.getfield 35, 3) := by decide +kernel
theorem dX12_firstWalker_22 : decode cX12_firstWalker 22 = .ok (.iload 4, 2) := by decide +kernel
theorem dX12_firstWalker_24 : decode cX12_firstWalker 24 = .ok (.iload_n 2, 1) := by decide +kernel
theorem dX12_firstWalker_25 : decode cX12_firstWalker 25 = .ok (.iastore, 1) := by decide +kernel
theorem dX12_firstWalker_26 : decode cX12_firstWalker 26 = .ok (.aload_n 0, 1) := by decide +kernel
theorem dX12_firstWalker_27 : decode cX12_firstWalker 27 = .ok (.getfield 38, 3) := by decide +kernel
theorem dX12_firstWalker_30 : decode cX12_firstWalker 30 = .ok (.iload 4, 2) := by decide +kernel
theorem dX12_firstWalker_32 : decode cX12_firstWalker 32 = .ok (.iload_n 3, 1) := by decide +kernel
theorem dX12_firstWalker_33 : decode cX12_firstWalker 33 = .ok (.iastore, 1) := by decide +kernel
theorem dX12_firstWalker_34 : decode cX12_firstWalker 34 = .ok (.aload_n 0, 1) := by decide +kernel
theorem dX12_firstWalker_35 : decode cX12_firstWalker 35 = .ok (.getfield 29, 3) := by decide +kernel
theorem dX12_firstWalker_38 : decode cX12_firstWalker 38 = .ok (.iconst 1, 1) := by decide +kernel
theorem dX12_firstWalker_39 : decode cX12_firstWalker 39 = .ok (.dup2, 1) := by decide +kernel
theorem dX12_firstWalker_40 : decode cX12_firstWalker 40 = .ok (.iaload, 1) := by decide +kernel
theorem dX12_firstWalker_41 : decode cX12_firstWalker 41 = .ok (.iconst 1, 1) := by decide +kernel
theorem dX12_firstWalker_42 : decode cX12_firstWalker 42 = .ok (.iadd, 1) := by decide +kernel
theorem dX12_firstWalker_43 : decode cX12_firstWalker 43 = .ok (.iastore, 1) := by decide +kernel
theorem dX12_firstWalker_44 : decode cX12_firstWalker 44 = .ok (.return_, 1) := by decide +kernel
theorem dX12_firstRates_0 : decode cX12_firstRates 0 = .ok (.aload_n 0, 1) := by decide +kernel
theorem dX12_firstRates_1 : decode cX12_firstRates 1 = .ok (.getfield 41, 3) := by decide +kernel
theorem dX12_firstRates_4 : decode cX12_firstRates 4 = .ok (.iconst 3, 1) := by decide +kernel
theorem dX12_firstRates_5 : decode cX12_firstRates 5 = .ok (.iload_n 1, 1) := by decide +kernel
theorem dX12_firstRates_6 : decode cX12_firstRates 6 = .ok (.iastore, 1) := by decide +kernel
theorem dX12_firstRates_7 : decode cX12_firstRates 7 = .ok (.aload_n 0, 1) := by decide +kernel
theorem dX12_firstRates_8 : decode cX12_firstRates 8 = .ok (.getfield 41, 3) := by decide +kernel
theorem dX12_firstRates_11 : decode cX12_firstRates 11 = .ok (.iconst 4, 1) := by decide +kernel
theorem dX12_firstRates_12 : decode cX12_firstRates 12 = .ok (.iload_n 2, 1) := by decide +kernel
theorem dX12_firstRates_13 : decode cX12_firstRates 13 = .ok (.iastore, 1) := by decide +kernel
theorem dX12_firstRates_14 : decode cX12_firstRates 14 = .ok (.aload_n 0, 1) := by decide +kernel
theorem dX12_firstRates_15 : decode cX12_firstRates 15 = .ok (.getfield 41, 3) := by decide +kernel
theorem dX12_firstRates_18 : decode cX12_firstRates 18 = .ok (.iconst 5, 1) := by decide +kernel
theorem dX12_firstRates_19 : decode cX12_firstRates 19 = .ok (.iload_n 3, 1) := by decide +kernel
theorem dX12_firstRates_20 : decode cX12_firstRates 20 = .ok (.iastore, 1) := by decide +kernel
theorem dX12_firstRates_21 : decode cX12_firstRates 21 = .ok (.return_, 1) := by decide +kernel
theorem dX12_in_0 : decode cX12_in 0 = .ok (.iload_n 0, 1) := by decide +kernel
theorem dX12_in_1 : decode cX12_in 1 = .ok (.iload_n 1, 1) := by decide +kernel
theorem dX12_in_2 : decode cX12_in 2 = .ok (.if_icmp .lt 12, 3) := by decide +kernel
theorem dX12_in_5 : decode cX12_in 5 = .ok (.iload_n 0, 1) := by decide +kernel
theorem dX12_in_6 : decode cX12_in 6 = .ok (.iload_n 2, 1) := by decide +kernel
theorem dX12_in_7 : decode cX12_in 7 = .ok (.if_icmp .gt 7, 3) := by decide +kernel
theorem dX12_in_10 : decode cX12_in 10 = .ok (.iconst 1, 1) := by decide +kernel
theorem dX12_in_11 : decode cX12_in 11 = .ok (.goto 4, 3) := by decide +kernel
theorem dX12_in_14 : decode cX12_in 14 = .ok (.iconst 0, 1) := by decide +kernel
theorem dX12_in_15 : decode cX12_in 15 = .ok (.ireturn, 1) := by decide +kernel
theorem dX12_write_0 : decode cX12_write 0 = .ok (.iload_n 1, 1) := by decide +kernel
theorem dX12_write_1 : decode cX12_write 1 = .ok (.bipush 32, 2) := by decide +kernel
theorem dX12_write_3 : decode cX12_write 3 = .ok (.bipush 126, 2) := by decide +kernel
theorem dX12_write_5 : decode cX12_write 5 = .ok (.invokestatic 94, 3) := by decide +kernel
theorem dX12_write_8 : decode cX12_write 8 = .ok (.ifCond .ne 5, 3) := by decide +kernel
theorem dX12_write_11 : decode cX12_write 11 = .ok (.iconst (-1), 1) := by decide +kernel
theorem dX12_write_12 : decode cX12_write 12 = .ok (.ireturn, 1) := by decide +kernel
theorem dX12_write_13 : decode cX12_write 13 = .ok (.aload_n 0, 1) := by decide +kernel
theorem dX12_write_14 : decode cX12_write 14 = .ok (.getfield 98, 3) := by decide +kernel
theorem dX12_write_17 : decode cX12_write 17 = .ok (.sipush 200, 3) := by decide +kernel
theorem dX12_write_20 : decode cX12_write 20 = .ok (.if_icmp .ne 6, 3) := by decide +kernel
theorem dX12_write_23 : decode cX12_write 23 = .ok (.bipush (-3), 2) := by decide +kernel
theorem dX12_write_25 : decode cX12_write 25 = .ok (.ireturn, 1) := by decide +kernel
theorem dX12_write_26 : decode cX12_write 26 = .ok (.aload_n 0, 1) := by decide +kernel
theorem dX12_write_27 : decode cX12_write 27 = .ok (.getfield 7, 3) := by decide +kernel
theorem dX12_write_30 : decode cX12_write 30 = .ok (.aload_n 0, 1) := by decide +kernel
theorem dX12_write_31 : decode cX12_write 31 = .ok (.getfield 98, 3) := by decide +kernel
theorem dX12_write_34 : decode cX12_write 34 = .ok (.iload_n 1, 1) := by decide +kernel
theorem dX12_write_35 : decode cX12_write 35 = .ok (.i2b, 1) := by decide +kernel
theorem dX12_write_36 : decode cX12_write 36 = .ok (.bastore, 1) := by decide +kernel
theorem dX12_write_37 : decode cX12_write 37 = .ok (.aload_n 0, 1) := by decide +kernel
theorem dX12_write_38 : decode cX12_write 38 = .ok (.dup, 1) := by decide +kernel
theorem dX12_write_39 : decode cX12_write 39 = .ok (.getfield 98, 3) := by decide +kernel
theorem dX12_write_42 : decode cX12_write 42 = .ok (.iconst 1, 1) := by decide +kernel
theorem dX12_write_43 : decode cX12_write 43 = .ok (.iadd, 1) := by decide +kernel
theorem dX12_write_44 : decode cX12_write 44 = .ok (.putfield 98, 3) := by decide +kernel
theorem dX12_write_47 : decode cX12_write 47 = .ok (.aload_n 0, 1) := by decide +kernel
theorem dX12_write_48 : decode cX12_write 48 = .ok (.getfield 98, 3) := by decide +kernel
theorem dX12_write_51 : decode cX12_write 51 = .ok (.ireturn, 1) := by decide +kernel
theorem dX12_wipe_0 : decode cX12_wipe 0 = .ok (.aload_n 0, 1) := by decide +kernel
theorem dX12_wipe_1 : decode cX12_wipe 1 = .ok (.getfield 98, 3) := by decide +kernel
theorem dX12_wipe_4 : decode cX12_wipe 4 = .ok (.istore_n 1, 1) := by decide +kernel
theorem dX12_wipe_5 : decode cX12_wipe 5 = .ok (.aload_n 0, 1) := by decide +kernel
theorem dX12_wipe_6 : decode cX12_wipe 6 = .ok (.iconst 0, 1) := by decide +kernel
theorem dX12_wipe_7 : decode cX12_wipe 7 = .ok (.putfield 98, 3) := by decide +kernel
theorem dX12_wipe_10 : decode cX12_wipe 10 = .ok (.iload_n 1, 1) := by decide +kernel
theorem dX12_wipe_11 : decode cX12_wipe 11 = .ok (.ireturn, 1) := by decide +kernel
theorem dX12_here_0 : decode cX12_here 0 = .ok (.aload_n 0, 1) := by decide +kernel
theorem dX12_here_1 : decode cX12_here 1 = .ok (.getfield 101, 3) := by decide +kernel
theorem dX12_here_4 : decode cX12_here 4 = .ok (.aload_n 0, 1) := by decide +kernel
theorem dX12_here_5 : decode cX12_here 5 = .ok (.getfield 98, 3) := by decide +kernel
theorem dX12_here_8 : decode cX12_here 8 = .ok (.if_icmp .ge 15, 3) := by decide +kernel
theorem dX12_here_11 : decode cX12_here 11 = .ok (.aload_n 0, 1) := by decide +kernel
theorem dX12_here_12 : decode cX12_here 12 = .ok (.getfield 7, 3) := by decide +kernel
theorem dX12_here_15 : decode cX12_here 15 = .ok (.aload_n 0, 1) := by decide +kernel
theorem dX12_here_16 : decode cX12_here 16 = .ok (.getfield 101, 3) := by decide +kernel
theorem dX12_here_19 : decode cX12_here 19 = .ok (.baload, 1) := by decide +kernel
theorem dX12_here_20 : decode cX12_here 20 = .ok (.goto 4, 3) := by decide +kernel
theorem dX12_here_23 : decode cX12_here 23 = .ok (.iconst (-1), 1) := by decide +kernel
theorem dX12_here_24 : decode cX12_here 24 = .ok (.ireturn, 1) := by decide +kernel
theorem dX12_number_0 : decode cX12_number 0 = .ok (.iconst 0, 1) := by decide +kernel
theorem dX12_number_1 : decode cX12_number 1 = .ok (.istore 4, 2) := by decide +kernel
theorem dX12_number_3 : decode cX12_number 3 = .ok (.iconst 0, 1) := by decide +kernel
theorem dX12_number_4 : decode cX12_number 4 = .ok (.istore 5, 2) := by decide +kernel
theorem dX12_number_6 : decode cX12_number 6 = .ok (.iload 5, 2) := by decide +kernel
theorem dX12_number_8 : decode cX12_number 8 = .ok (.iconst 2, 1) := by decide +kernel
theorem dX12_number_9 : decode cX12_number 9 = .ok (.if_icmp .ge 48, 3) := by decide +kernel
theorem dX12_number_12 : decode cX12_number 12 = .ok (.aload_n 0, 1) := by decide +kernel
theorem dX12_number_13 : decode cX12_number 13 = .ok (.invokevirtual 104, 3) := by decide +kernel
theorem dX12_number_16 : decode cX12_number 16 = .ok (.bipush 48, 2) := by decide +kernel
theorem dX12_number_18 : decode cX12_number 18 = .ok (.bipush 57, 2) := by decide +kernel
theorem dX12_number_20 : decode cX12_number 20 = .ok (.invokestatic 94, 3) := by decide +kernel
theorem dX12_number_23 : decode cX12_number 23 = .ok (.ifCond .eq 34, 3) := by decide +kernel
theorem dX12_number_26 : decode cX12_number 26 = .ok (.bipush 10, 2) := by decide +kernel
theorem dX12_number_28 : decode cX12_number 28 = .ok (.iload 4, 2) := by decide +kernel
theorem dX12_number_30 : decode cX12_number 30 = .ok (.imul, 1) := by decide +kernel
theorem dX12_number_31 : decode cX12_number 31 = .ok (.aload_n 0, 1) := by decide +kernel
theorem dX12_number_32 : decode cX12_number 32 = .ok (.invokevirtual 104, 3) := by decide +kernel
theorem dX12_number_35 : decode cX12_number 35 = .ok (.iadd, 1) := by decide +kernel
theorem dX12_number_36 : decode cX12_number 36 = .ok (.bipush 48, 2) := by decide +kernel
theorem dX12_number_38 : decode cX12_number 38 = .ok (.isub, 1) := by decide +kernel
theorem dX12_number_39 : decode cX12_number 39 = .ok (.istore 4, 2) := by decide +kernel
theorem dX12_number_41 : decode cX12_number 41 = .ok (.aload_n 0, 1) := by decide +kernel
theorem dX12_number_42 : decode cX12_number 42 = .ok (.dup, 1) := by decide +kernel
theorem dX12_number_43 : decode cX12_number 43 = .ok (.getfield 101, 3) := by decide +kernel
theorem dX12_number_46 : decode cX12_number 46 = .ok (.iconst 1, 1) := by decide +kernel
theorem dX12_number_47 : decode cX12_number 47 = .ok (.iadd, 1) := by decide +kernel
theorem dX12_number_48 : decode cX12_number 48 = .ok (.putfield 101, 3) := by decide +kernel
theorem dX12_number_51 : decode cX12_number 51 = .ok (.iinc 5 1, 3) := by decide +kernel
theorem dX12_number_54 : decode cX12_number 54 = .ok (.goto (-48), 3) := by decide +kernel
theorem dX12_number_57 : decode cX12_number 57 = .ok (.aload_n 0, 1) := by decide +kernel
theorem dX12_number_58 : decode cX12_number 58 = .ok (.aload_n 0, 1) := by decide +kernel
theorem dX12_number_59 : decode cX12_number 59 = .ok (.getfield 108, 3) := by decide +kernel
theorem dX12_number_62 : decode cX12_number 62 = .ok (.ifCond .eq 30, 3) := by decide +kernel
theorem dX12_number_65 : decode cX12_number 65 = .ok (.iload 5, 2) := by decide +kernel
theorem dX12_number_67 : decode cX12_number 67 = .ok (.ifCond .le 25, 3) := by decide +kernel
theorem dX12_number_70 : decode cX12_number 70 = .ok (.iload 4, 2) := by decide +kernel
theorem dX12_number_72 : decode cX12_number 72 = .ok (.iload_n 1, 1) := by decide +kernel
theorem dX12_number_73 : decode cX12_number 73 = .ok (.iload_n 2, 1) := by decide +kernel
theorem dX12_number_74 : decode cX12_number 74 = .ok (.invokestatic 94, 3) := by decide +kernel
theorem dX12_number_77 : decode cX12_number 77 = .ok (.ifCond .eq 15, 3) := by decide +kernel
theorem dX12_number_80 : decode cX12_number 80 = .ok (.aload_n 0, 1) := by decide +kernel
theorem dX12_number_81 : decode cX12_number 81 = .ok (.invokevirtual 104, 3) := by decide +kernel
theorem dX12_number_84 : decode cX12_number 84 = .ok (.iload_n 3, 1) := by decide +kernel
theorem dX12_number_85 : decode cX12_number 85 = .ok (.if_icmp .ne 7, 3) := by decide +kernel
theorem dX12_number_88 : decode cX12_number 88 = .ok (.iconst 1, 1) := by decide +kernel
theorem dX12_number_89 : decode cX12_number 89 = .ok (.goto 4, 3) := by decide +kernel
theorem dX12_number_92 : decode cX12_number 92 = .ok (.iconst 0, 1) := by decide +kernel
theorem dX12_number_93 : decode cX12_number 93 = .ok (.putfield 108, 3) := by decide +kernel
theorem dX12_number_96 : decode cX12_number 96 = .ok (.aload_n 0, 1) := by decide +kernel
theorem dX12_number_97 : decode cX12_number 97 = .ok (.dup, 1) := by decide +kernel
theorem dX12_number_98 : decode cX12_number 98 = .ok (.getfield 101, 3) := by decide +kernel
theorem dX12_number_101 : decode cX12_number 101 = .ok (.iconst 1, 1) := by decide +kernel
theorem dX12_number_102 : decode cX12_number 102 = .ok (.iadd, 1) := by decide +kernel
theorem dX12_number_103 : decode cX12_number 103 = .ok (.putfield 101, 3) := by decide +kernel
theorem dX12_number_106 : decode cX12_number 106 = .ok (.iload 4, 2) := by decide +kernel
theorem dX12_number_108 : decode cX12_number 108 = .ok (.ireturn, 1) := by decide +kernel
theorem dX12_corner_0 : decode cX12_corner 0 = .ok (.aload_n 0, 1) := by decide +kernel
theorem dX12_corner_1 : decode cX12_corner 1 = .ok (.iconst 0, 1) := by decide +kernel
theorem dX12_corner_2 : decode cX12_corner 2 = .ok (.aload_n 0, 1) := by decide +kernel
theorem dX12_corner_3 : decode cX12_corner 3 = .ok (.getfield 13, 3) := by decide +kernel
theorem dX12_corner_6 : decode cX12_corner 6 = .ok (.iconst 1, 1) := by decide +kernel
theorem dX12_corner_7 : decode cX12_corner 7 = .ok (.iaload, 1) := by decide +kernel
theorem dX12_corner_8 : decode cX12_corner 8 = .ok (.iconst 1, 1) := by decide +kernel
theorem dX12_corner_9 : decode cX12_corner 9 = .ok (.isub, 1) := by decide +kernel
theorem dX12_corner_10 : decode cX12_corner 10 = .ok (.iload_n 1, 1) := by decide +kernel
theorem dX12_corner_11 : decode cX12_corner 11 = .ok (.invokevirtual 112, 3) := by decide +kernel
theorem dX12_corner_14 : decode cX12_corner 14 = .ok (.ireturn, 1) := by decide +kernel
theorem dX12_readStreet_0 : decode cX12_readStreet 0 = .ok (.aload_n 0, 1) := by decide +kernel
theorem dX12_readStreet_1 : decode cX12_readStreet 1 = .ok (.aload_n 0, 1) := by decide +kernel
theorem dX12_readStreet_2 : decode cX12_readStreet 2 = .ok (.getfield 17, 3) := by decide +kernel
theorem dX12_readStreet_5 : decode cX12_readStreet 5 = .ok (.iconst 1, 1) := by decide +kernel
theorem dX12_readStreet_6 : decode cX12_readStreet 6 = .ok (.iaload, 1) := by decide +kernel
theorem dX12_readStreet_7 : decode cX12_readStreet 7 = .ok (.bipush 12, 2) := by decide +kernel
theorem dX12_readStreet_9 : decode cX12_readStreet 9 = .ok (.if_icmp .ge 7, 3) := by decide +kernel
theorem dX12_readStreet_12 : decode cX12_readStreet 12 = .ok (.iconst 1, 1) := by decide +kernel
theorem dX12_readStreet_13 : decode cX12_readStreet 13 = .ok (.goto 4, 3) := by decide +kernel
theorem dX12_readStreet_16 : decode cX12_readStreet 16 = .ok (.iconst 0, 1) := by decide +kernel
theorem dX12_readStreet_17 : decode cX12_readStreet 17 = .ok (.putfield 108, 3) := by decide +kernel
theorem dX12_readStreet_20 : decode cX12_readStreet 20 = .ok (.aload_n 0, 1) := by decide +kernel
theorem dX12_readStreet_21 : decode cX12_readStreet 21 = .ok (.bipush 44, 2) := by decide +kernel
theorem dX12_readStreet_23 : decode cX12_readStreet 23 = .ok (.invokevirtual 116, 3) := by decide +kernel
theorem dX12_readStreet_26 : decode cX12_readStreet 26 = .ok (.istore_n 1, 1) := by decide +kernel
theorem dX12_readStreet_27 : decode cX12_readStreet 27 = .ok (.aload_n 0, 1) := by decide +kernel
theorem dX12_readStreet_28 : decode cX12_readStreet 28 = .ok (.bipush 44, 2) := by decide +kernel
theorem dX12_readStreet_30 : decode cX12_readStreet 30 = .ok (.invokevirtual 116, 3) := by decide +kernel
theorem dX12_readStreet_33 : decode cX12_readStreet 33 = .ok (.istore_n 2, 1) := by decide +kernel
theorem dX12_readStreet_34 : decode cX12_readStreet 34 = .ok (.aload_n 0, 1) := by decide +kernel
theorem dX12_readStreet_35 : decode cX12_readStreet 35 = .ok (.iconst 1, 1) := by decide +kernel
theorem dX12_readStreet_36 : decode cX12_readStreet 36 = .ok (.bipush 20, 2) := by decide +kernel
theorem dX12_readStreet_38 : decode cX12_readStreet 38 = .ok (.bipush 59, 2) := by decide +kernel
theorem dX12_readStreet_40 : decode cX12_readStreet 40 = .ok (.invokevirtual 112, 3) := by decide +kernel
theorem dX12_readStreet_43 : decode cX12_readStreet 43 = .ok (.istore_n 3, 1) := by decide +kernel
theorem dX12_readStreet_44 : decode cX12_readStreet 44 = .ok (.aload_n 0, 1) := by decide +kernel
theorem dX12_readStreet_45 : decode cX12_readStreet 45 = .ok (.aload_n 0, 1) := by decide +kernel
theorem dX12_readStreet_46 : decode cX12_readStreet 46 = .ok (.getfield 108, 3) := by decide +kernel
theorem dX12_readStreet_49 : decode cX12_readStreet 49 = .ok (.ifCond .eq 12, 3) := by decide +kernel
theorem dX12_readStreet_52 : decode cX12_readStreet 52 = .ok (.iload_n 1, 1) := by decide +kernel
theorem dX12_readStreet_53 : decode cX12_readStreet 53 = .ok (.iload_n 2, 1) := by decide +kernel
theorem dX12_readStreet_54 : decode cX12_readStreet 54 = .ok (.if_icmp .eq 7, 3) := by decide +kernel
theorem dX12_readStreet_57 : decode cX12_readStreet 57 = .ok (.iconst 1, 1) := by decide +kernel
theorem dX12_readStreet_58 : decode cX12_readStreet 58 = .ok (.goto 4, 3) := by decide +kernel
theorem dX12_readStreet_61 : decode cX12_readStreet 61 = .ok (.iconst 0, 1) := by decide +kernel
theorem dX12_readStreet_62 : decode cX12_readStreet 62 = .ok (.putfield 108, 3) := by decide +kernel
theorem dX12_readStreet_65 : decode cX12_readStreet 65 = .ok (.iconst 0, 1) := by decide +kernel
theorem dX12_readStreet_66 : decode cX12_readStreet 66 = .ok (.istore 4, 2) := by decide +kernel
theorem dX12_readStreet_68 : decode cX12_readStreet 68 = .ok (.iload 4, 2) := by decide +kernel
theorem dX12_readStreet_70 : decode cX12_readStreet 70 = .ok (.aload_n 0, 1) := by decide +kernel
theorem dX12_readStreet_71 : decode cX12_readStreet 71 = .ok (.getfield 17, 3) := by decide +kernel
theorem dX12_readStreet_74 : decode cX12_readStreet 74 = .ok (.iconst 1, 1) := by decide +kernel
theorem dX12_readStreet_75 : decode cX12_readStreet 75 = .ok (.iaload, 1) := by decide +kernel
theorem dX12_readStreet_76 : decode cX12_readStreet 76 = .ok (.if_icmp .ge 73, 3) := by decide +kernel
theorem dX12_readStreet_79 : decode cX12_readStreet 79 = .ok (.aload_n 0, 1) := by decide +kernel
theorem dX12_readStreet_80 : decode cX12_readStreet 80 = .ok (.getfield 20, 3) := by decide +kernel
theorem dX12_readStreet_83 : decode cX12_readStreet 83 = .ok (.bipush 12, 2) := by decide +kernel
theorem dX12_readStreet_85 : decode cX12_readStreet 85 = .ok (.iload 4, 2) := by decide +kernel
theorem dX12_readStreet_87 : decode cX12_readStreet 87 = .ok (.iadd, 1) := by decide +kernel
theorem dX12_readStreet_88 : decode cX12_readStreet 88 = .ok (.iaload, 1) := by decide +kernel
theorem dX12_readStreet_89 : decode cX12_readStreet 89 = .ok (.istore 5, 2) := by decide +kernel
theorem dX12_readStreet_91 : decode cX12_readStreet 91 = .ok (.aload_n 0, 1) := by decide +kernel
theorem dX12_readStreet_92 : decode cX12_readStreet 92 = .ok (.getfield 23, 3) := by decide +kernel
theorem dX12_readStreet_95 : decode cX12_readStreet 95 = .ok (.bipush 12, 2) := by decide +kernel
theorem dX12_readStreet_97 : decode cX12_readStreet 97 = .ok (.iload 4, 2) := by decide +kernel
theorem dX12_readStreet_99 : decode cX12_readStreet 99 = .ok (.iadd, 1) := by decide +kernel
theorem dX12_readStreet_100 : decode cX12_readStreet 100 = .ok (.iaload, 1) := by decide +kernel
theorem dX12_readStreet_101 : decode cX12_readStreet 101 = .ok (.istore 6, 2) := by decide +kernel
theorem dX12_readStreet_103 : decode cX12_readStreet 103 = .ok (.aload_n 0, 1) := by decide +kernel
theorem dX12_readStreet_104 : decode cX12_readStreet 104 = .ok (.aload_n 0, 1) := by decide +kernel
theorem dX12_readStreet_105 : decode cX12_readStreet 105 = .ok (.getfield 108, 3) := by decide +kernel
theorem dX12_readStreet_108 : decode cX12_readStreet 108 = .ok (.ifCond .eq 31, 3) := by decide +kernel
theorem dX12_readStreet_111 : decode cX12_readStreet 111 = .ok (.iload 5, 2) := by decide +kernel
theorem dX12_readStreet_113 : decode cX12_readStreet 113 = .ok (.iload_n 1, 1) := by decide +kernel
theorem dX12_readStreet_114 : decode cX12_readStreet 114 = .ok (.if_icmp .ne 9, 3) := by decide +kernel
theorem dX12_readStreet_117 : decode cX12_readStreet 117 = .ok (.iload 6, 2) := by decide +kernel
theorem dX12_readStreet_119 : decode cX12_readStreet 119 = .ok (.iload_n 2, 1) := by decide +kernel
theorem dX12_readStreet_120 : decode cX12_readStreet 120 = .ok (.if_icmp .eq 19, 3) := by decide +kernel
theorem dX12_readStreet_123 : decode cX12_readStreet 123 = .ok (.iload 5, 2) := by decide +kernel
theorem dX12_readStreet_125 : decode cX12_readStreet 125 = .ok (.iload_n 2, 1) := by decide +kernel
theorem dX12_readStreet_126 : decode cX12_readStreet 126 = .ok (.if_icmp .ne 9, 3) := by decide +kernel
theorem dX12_readStreet_129 : decode cX12_readStreet 129 = .ok (.iload 6, 2) := by decide +kernel
theorem dX12_readStreet_131 : decode cX12_readStreet 131 = .ok (.iload_n 1, 1) := by decide +kernel
theorem dX12_readStreet_132 : decode cX12_readStreet 132 = .ok (.if_icmp .eq 7, 3) := by decide +kernel
theorem dX12_readStreet_135 : decode cX12_readStreet 135 = .ok (.iconst 1, 1) := by decide +kernel
theorem dX12_readStreet_136 : decode cX12_readStreet 136 = .ok (.goto 4, 3) := by decide +kernel
theorem dX12_readStreet_139 : decode cX12_readStreet 139 = .ok (.iconst 0, 1) := by decide +kernel
theorem dX12_readStreet_140 : decode cX12_readStreet 140 = .ok (.putfield 108, 3) := by decide +kernel
theorem dX12_readStreet_143 : decode cX12_readStreet 143 = .ok (.iinc 4 1, 3) := by decide +kernel
theorem dX12_readStreet_146 : decode cX12_readStreet 146 = .ok (.goto (-78), 3) := by decide +kernel
theorem dX12_readStreet_149 : decode cX12_readStreet 149 = .ok (.aload_n 0, 1) := by decide +kernel
theorem dX12_readStreet_150 : decode cX12_readStreet 150 = .ok (.getfield 108, 3) := by decide +kernel
theorem dX12_readStreet_153 : decode cX12_readStreet 153 = .ok (.ifCond .eq 10, 3) := by decide +kernel
theorem dX12_readStreet_156 : decode cX12_readStreet 156 = .ok (.aload_n 0, 1) := by decide +kernel
theorem dX12_readStreet_157 : decode cX12_readStreet 157 = .ok (.iload_n 1, 1) := by decide +kernel
theorem dX12_readStreet_158 : decode cX12_readStreet 158 = .ok (.iload_n 2, 1) := by decide +kernel
theorem dX12_readStreet_159 : decode cX12_readStreet 159 = .ok (.iload_n 3, 1) := by decide +kernel
theorem dX12_readStreet_160 : decode cX12_readStreet 160 = .ok (.invokevirtual 74, 3) := by decide +kernel
theorem dX12_readStreet_163 : decode cX12_readStreet 163 = .ok (.return_, 1) := by decide +kernel
theorem dX12_readItem_0 : decode cX12_readItem 0 = .ok (.aload_n 0, 1) := by decide +kernel
theorem dX12_readItem_1 : decode cX12_readItem 1 = .ok (.invokevirtual 104, 3) := by decide +kernel
theorem dX12_readItem_4 : decode cX12_readItem 4 = .ok (.istore_n 1, 1) := by decide +kernel
theorem dX12_readItem_5 : decode cX12_readItem 5 = .ok (.aload_n 0, 1) := by decide +kernel
theorem dX12_readItem_6 : decode cX12_readItem 6 = .ok (.dup, 1) := by decide +kernel
theorem dX12_readItem_7 : decode cX12_readItem 7 = .ok (.getfield 101, 3) := by decide +kernel
theorem dX12_readItem_10 : decode cX12_readItem 10 = .ok (.iconst 1, 1) := by decide +kernel
theorem dX12_readItem_11 : decode cX12_readItem 11 = .ok (.iadd, 1) := by decide +kernel
theorem dX12_readItem_12 : decode cX12_readItem 12 = .ok (.putfield 101, 3) := by decide +kernel
theorem dX12_readItem_15 : decode cX12_readItem 15 = .ok (.aload_n 0, 1) := by decide +kernel
theorem dX12_readItem_16 : decode cX12_readItem 16 = .ok (.iconst 1, 1) := by decide +kernel
theorem dX12_readItem_17 : decode cX12_readItem 17 = .ok (.putfield 108, 3) := by decide +kernel
theorem dX12_readItem_20 : decode cX12_readItem 20 = .ok (.iload_n 1, 1) := by decide +kernel
theorem dX12_readItem_21 : decode cX12_readItem 21 = .ok (.lookupswitch 253 #[(99, 51), (103, 84), (114, 207), (115, 77), (119, 142)], 51) := by decide +kernel
theorem dX12_readItem_72 : decode cX12_readItem 72 = .ok (.aload_n 0, 1) := by decide +kernel
theorem dX12_readItem_73 : decode cX12_readItem 73 = .ok (.aload_n 0, 1) := by decide +kernel
theorem dX12_readItem_74 : decode cX12_readItem 74 = .ok (.getfield 120, 3) := by decide +kernel
theorem dX12_readItem_77 : decode cX12_readItem 77 = .ok (.putfield 108, 3) := by decide +kernel
theorem dX12_readItem_80 : decode cX12_readItem 80 = .ok (.aload_n 0, 1) := by decide +kernel
theorem dX12_readItem_81 : decode cX12_readItem 81 = .ok (.getfield 13, 3) := by decide +kernel
theorem dX12_readItem_84 : decode cX12_readItem 84 = .ok (.iconst 1, 1) := by decide +kernel
theorem dX12_readItem_85 : decode cX12_readItem 85 = .ok (.aload_n 0, 1) := by decide +kernel
theorem dX12_readItem_86 : decode cX12_readItem 86 = .ok (.iconst 1, 1) := by decide +kernel
theorem dX12_readItem_87 : decode cX12_readItem 87 = .ok (.bipush 8, 2) := by decide +kernel
theorem dX12_readItem_89 : decode cX12_readItem 89 = .ok (.bipush 59, 2) := by decide +kernel
theorem dX12_readItem_91 : decode cX12_readItem 91 = .ok (.invokevirtual 112, 3) := by decide +kernel
theorem dX12_readItem_94 : decode cX12_readItem 94 = .ok (.iastore, 1) := by decide +kernel
theorem dX12_readItem_95 : decode cX12_readItem 95 = .ok (.goto 184, 3) := by decide +kernel
theorem dX12_readItem_98 : decode cX12_readItem 98 = .ok (.aload_n 0, 1) := by decide +kernel
theorem dX12_readItem_99 : decode cX12_readItem 99 = .ok (.invokevirtual 123, 3) := by decide +kernel
theorem dX12_readItem_102 : decode cX12_readItem 102 = .ok (.goto 177, 3) := by decide +kernel
theorem dX12_readItem_105 : decode cX12_readItem 105 = .ok (.aload_n 0, 1) := by decide +kernel
theorem dX12_readItem_106 : decode cX12_readItem 106 = .ok (.aload_n 0, 1) := by decide +kernel
theorem dX12_readItem_107 : decode cX12_readItem 107 = .ok (.getfield 90, 3) := by decide +kernel
theorem dX12_readItem_110 : decode cX12_readItem 110 = .ok (.bipush 8, 2) := by decide +kernel
theorem dX12_readItem_112 : decode cX12_readItem 112 = .ok (.if_icmp .ge 7, 3) := by decide +kernel
theorem dX12_readItem_115 : decode cX12_readItem 115 = .ok (.iconst 1, 1) := by decide +kernel
theorem dX12_readItem_116 : decode cX12_readItem 116 = .ok (.goto 4, 3) := by decide +kernel
theorem dX12_readItem_119 : decode cX12_readItem 119 = .ok (.iconst 0, 1) := by decide +kernel
theorem dX12_readItem_120 : decode cX12_readItem 120 = .ok (.putfield 108, 3) := by decide +kernel
theorem dX12_readItem_123 : decode cX12_readItem 123 = .ok (.aload_n 0, 1) := by decide +kernel
theorem dX12_readItem_124 : decode cX12_readItem 124 = .ok (.bipush 44, 2) := by decide +kernel
theorem dX12_readItem_126 : decode cX12_readItem 126 = .ok (.invokevirtual 116, 3) := by decide +kernel
theorem dX12_readItem_129 : decode cX12_readItem 129 = .ok (.istore_n 2, 1) := by decide +kernel
theorem dX12_readItem_130 : decode cX12_readItem 130 = .ok (.aload_n 0, 1) := by decide +kernel
theorem dX12_readItem_131 : decode cX12_readItem 131 = .ok (.bipush 44, 2) := by decide +kernel
theorem dX12_readItem_133 : decode cX12_readItem 133 = .ok (.invokevirtual 116, 3) := by decide +kernel
theorem dX12_readItem_136 : decode cX12_readItem 136 = .ok (.istore_n 3, 1) := by decide +kernel
theorem dX12_readItem_137 : decode cX12_readItem 137 = .ok (.aload_n 0, 1) := by decide +kernel
theorem dX12_readItem_138 : decode cX12_readItem 138 = .ok (.bipush 59, 2) := by decide +kernel
theorem dX12_readItem_140 : decode cX12_readItem 140 = .ok (.invokevirtual 116, 3) := by decide +kernel
theorem dX12_readItem_143 : decode cX12_readItem 143 = .ok (.istore 4, 2) := by decide +kernel
theorem dX12_readItem_145 : decode cX12_readItem 145 = .ok (.aload_n 0, 1) := by decide +kernel
theorem dX12_readItem_146 : decode cX12_readItem 146 = .ok (.getfield 108, 3) := by decide +kernel
theorem dX12_readItem_149 : decode cX12_readItem 149 = .ok (.ifCond .eq 130, 3) := by decide +kernel
theorem dX12_readItem_152 : decode cX12_readItem 152 = .ok (.aload_n 0, 1) := by decide +kernel
theorem dX12_readItem_153 : decode cX12_readItem 153 = .ok (.iload_n 2, 1) := by decide +kernel
theorem dX12_readItem_154 : decode cX12_readItem 154 = .ok (.iload_n 3, 1) := by decide +kernel
theorem dX12_readItem_155 : decode cX12_readItem 155 = .ok (.iload 4, 2) := by decide +kernel
theorem dX12_readItem_157 : decode cX12_readItem 157 = .ok (.invokevirtual 78, 3) := by decide +kernel
theorem dX12_readItem_160 : decode cX12_readItem 160 = .ok (.goto 119, 3) := by decide +kernel
theorem dX12_readItem_163 : decode cX12_readItem 163 = .ok (.aload_n 0, 1) := by decide +kernel
theorem dX12_readItem_164 : decode cX12_readItem 164 = .ok (.aload_n 0, 1) := by decide +kernel
theorem dX12_readItem_165 : decode cX12_readItem 165 = .ok (.getfield 29, 3) := by decide +kernel
theorem dX12_readItem_168 : decode cX12_readItem 168 = .ok (.iconst 1, 1) := by decide +kernel
theorem dX12_readItem_169 : decode cX12_readItem 169 = .ok (.iaload, 1) := by decide +kernel
theorem dX12_readItem_170 : decode cX12_readItem 170 = .ok (.iconst 4, 1) := by decide +kernel
theorem dX12_readItem_171 : decode cX12_readItem 171 = .ok (.if_icmp .ge 7, 3) := by decide +kernel
theorem dX12_readItem_174 : decode cX12_readItem 174 = .ok (.iconst 1, 1) := by decide +kernel
theorem dX12_readItem_175 : decode cX12_readItem 175 = .ok (.goto 4, 3) := by decide +kernel
theorem dX12_readItem_178 : decode cX12_readItem 178 = .ok (.iconst 0, 1) := by decide +kernel
theorem dX12_readItem_179 : decode cX12_readItem 179 = .ok (.putfield 108, 3) := by decide +kernel
theorem dX12_readItem_182 : decode cX12_readItem 182 = .ok (.aload_n 0, 1) := by decide +kernel
theorem dX12_readItem_183 : decode cX12_readItem 183 = .ok (.iconst 0, 1) := by decide +kernel
theorem dX12_readItem_184 : decode cX12_readItem 184 = .ok (.iconst 3, 1) := by decide +kernel
theorem dX12_readItem_185 : decode cX12_readItem 185 = .ok (.bipush 44, 2) := by decide +kernel
theorem dX12_readItem_187 : decode cX12_readItem 187 = .ok (.invokevirtual 112, 3) := by decide +kernel
theorem dX12_readItem_190 : decode cX12_readItem 190 = .ok (.istore 5, 2) := by decide +kernel
theorem dX12_readItem_192 : decode cX12_readItem 192 = .ok (.aload_n 0, 1) := by decide +kernel
theorem dX12_readItem_193 : decode cX12_readItem 193 = .ok (.bipush 44, 2) := by decide +kernel
theorem dX12_readItem_195 : decode cX12_readItem 195 = .ok (.invokevirtual 116, 3) := by decide +kernel
theorem dX12_readItem_198 : decode cX12_readItem 198 = .ok (.istore 6, 2) := by decide +kernel
theorem dX12_readItem_200 : decode cX12_readItem 200 = .ok (.aload_n 0, 1) := by decide +kernel
theorem dX12_readItem_201 : decode cX12_readItem 201 = .ok (.bipush 59, 2) := by decide +kernel
theorem dX12_readItem_203 : decode cX12_readItem 203 = .ok (.invokevirtual 116, 3) := by decide +kernel
theorem dX12_readItem_206 : decode cX12_readItem 206 = .ok (.istore 7, 2) := by decide +kernel
theorem dX12_readItem_208 : decode cX12_readItem 208 = .ok (.aload_n 0, 1) := by decide +kernel
theorem dX12_readItem_209 : decode cX12_readItem 209 = .ok (.getfield 108, 3) := by decide +kernel
theorem dX12_readItem_212 : decode cX12_readItem 212 = .ok (.ifCond .eq 67, 3) := by decide +kernel
theorem dX12_readItem_215 : decode cX12_readItem 215 = .ok (.aload_n 0, 1) := by decide +kernel
theorem dX12_readItem_216 : decode cX12_readItem 216 = .ok (.iload 5, 2) := by decide +kernel
theorem dX12_readItem_218 : decode cX12_readItem 218 = .ok (.iload 6, 2) := by decide +kernel
theorem dX12_readItem_220 : decode cX12_readItem 220 = .ok (.iload 7, 2) := by decide +kernel
theorem dX12_readItem_222 : decode cX12_readItem 222 = .ok (.invokevirtual 81, 3) := by decide +kernel
theorem dX12_readItem_225 : decode cX12_readItem 225 = .ok (.goto 54, 3) := by decide +kernel
theorem dX12_readItem_228 : decode cX12_readItem 228 = .ok (.aload_n 0, 1) := by decide +kernel
theorem dX12_readItem_229 : decode cX12_readItem 229 = .ok (.iconst 0, 1) := by decide +kernel
theorem dX12_readItem_230 : decode cX12_readItem 230 = .ok (.bipush 9, 2) := by decide +kernel
theorem dX12_readItem_232 : decode cX12_readItem 232 = .ok (.bipush 44, 2) := by decide +kernel
theorem dX12_readItem_234 : decode cX12_readItem 234 = .ok (.invokevirtual 112, 3) := by decide +kernel
theorem dX12_readItem_237 : decode cX12_readItem 237 = .ok (.istore 8, 2) := by decide +kernel
theorem dX12_readItem_239 : decode cX12_readItem 239 = .ok (.aload_n 0, 1) := by decide +kernel
theorem dX12_readItem_240 : decode cX12_readItem 240 = .ok (.iconst 0, 1) := by decide +kernel
theorem dX12_readItem_241 : decode cX12_readItem 241 = .ok (.bipush 9, 2) := by decide +kernel
theorem dX12_readItem_243 : decode cX12_readItem 243 = .ok (.bipush 44, 2) := by decide +kernel
theorem dX12_readItem_245 : decode cX12_readItem 245 = .ok (.invokevirtual 112, 3) := by decide +kernel
theorem dX12_readItem_248 : decode cX12_readItem 248 = .ok (.istore 9, 2) := by decide +kernel
theorem dX12_readItem_250 : decode cX12_readItem 250 = .ok (.aload_n 0, 1) := by decide +kernel
theorem dX12_readItem_251 : decode cX12_readItem 251 = .ok (.iconst 0, 1) := by decide +kernel
theorem dX12_readItem_252 : decode cX12_readItem 252 = .ok (.bipush 9, 2) := by decide +kernel
theorem dX12_readItem_254 : decode cX12_readItem 254 = .ok (.bipush 59, 2) := by decide +kernel
theorem dX12_readItem_256 : decode cX12_readItem 256 = .ok (.invokevirtual 112, 3) := by decide +kernel
theorem dX12_readItem_259 : decode cX12_readItem 259 = .ok (.istore 10, 2) := by decide +kernel
theorem dX12_readItem_261 : decode cX12_readItem 261 = .ok (.aload_n 0, 1) := by decide +kernel
theorem dX12_readItem_262 : decode cX12_readItem 262 = .ok (.iload 8, 2) := by decide +kernel
theorem dX12_readItem_264 : decode cX12_readItem 264 = .ok (.iload 9, 2) := by decide +kernel
theorem dX12_readItem_266 : decode cX12_readItem 266 = .ok (.iload 10, 2) := by decide +kernel
theorem dX12_readItem_268 : decode cX12_readItem 268 = .ok (.invokevirtual 84, 3) := by decide +kernel
theorem dX12_readItem_271 : decode cX12_readItem 271 = .ok (.goto 8, 3) := by decide +kernel
theorem dX12_readItem_274 : decode cX12_readItem 274 = .ok (.aload_n 0, 1) := by decide +kernel
theorem dX12_readItem_275 : decode cX12_readItem 275 = .ok (.iconst 0, 1) := by decide +kernel
theorem dX12_readItem_276 : decode cX12_readItem 276 = .ok (.putfield 108, 3) := by decide +kernel
theorem dX12_readItem_279 : decode cX12_readItem 279 = .ok (.aload_n 0, 1) := by decide +kernel
theorem dX12_readItem_280 : decode cX12_readItem 280 = .ok (.aload_n 0, 1) := by decide +kernel
theorem dX12_readItem_281 : decode cX12_readItem 281 = .ok (.getfield 120, 3) := by decide +kernel
theorem dX12_readItem_284 : decode cX12_readItem 284 = .ok (.ifCond .eq 13, 3) := by decide +kernel
theorem dX12_readItem_287 : decode cX12_readItem 287 = .ok (.iload_n 1, 1) := by decide +kernel
theorem dX12_readItem_288 : decode cX12_readItem 288 = .ok (.bipush 99, 2) := by decide +kernel
theorem dX12_readItem_290 : decode cX12_readItem 290 = .ok (.if_icmp .ne 7, 3) := by decide +kernel
theorem dX12_readItem_293 : decode cX12_readItem 293 = .ok (.iconst 1, 1) := by decide +kernel
theorem dX12_readItem_294 : decode cX12_readItem 294 = .ok (.goto 4, 3) := by decide +kernel
theorem dX12_readItem_297 : decode cX12_readItem 297 = .ok (.iconst 0, 1) := by decide +kernel
theorem dX12_readItem_298 : decode cX12_readItem 298 = .ok (.putfield 120, 3) := by decide +kernel
theorem dX12_readItem_301 : decode cX12_readItem 301 = .ok (.return_, 1) := by decide +kernel
theorem dX12_fault_0 : decode cX12_fault 0 = .ok (.aload_n 0, 1) := by decide +kernel
theorem dX12_fault_1 : decode cX12_fault 1 = .ok (.iconst 0, 1) := by decide +kernel
theorem dX12_fault_2 : decode cX12_fault 2 = .ok (.putfield 101, 3) := by decide +kernel
theorem dX12_fault_5 : decode cX12_fault 5 = .ok (.aload_n 0, 1) := by decide +kernel
theorem dX12_fault_6 : decode cX12_fault 6 = .ok (.iconst 1, 1) := by decide +kernel
theorem dX12_fault_7 : decode cX12_fault 7 = .ok (.putfield 120, 3) := by decide +kernel
theorem dX12_fault_10 : decode cX12_fault 10 = .ok (.aload_n 0, 1) := by decide +kernel
theorem dX12_fault_11 : decode cX12_fault 11 = .ok (.getfield 13, 3) := by decide +kernel
theorem dX12_fault_14 : decode cX12_fault 14 = .ok (.iconst 1, 1) := by decide +kernel
theorem dX12_fault_15 : decode cX12_fault 15 = .ok (.iconst 4, 1) := by decide +kernel
theorem dX12_fault_16 : decode cX12_fault 16 = .ok (.iastore, 1) := by decide +kernel
theorem dX12_fault_17 : decode cX12_fault 17 = .ok (.aload_n 0, 1) := by decide +kernel
theorem dX12_fault_18 : decode cX12_fault 18 = .ok (.getfield 17, 3) := by decide +kernel
theorem dX12_fault_21 : decode cX12_fault 21 = .ok (.iconst 1, 1) := by decide +kernel
theorem dX12_fault_22 : decode cX12_fault 22 = .ok (.iconst 0, 1) := by decide +kernel
theorem dX12_fault_23 : decode cX12_fault 23 = .ok (.iastore, 1) := by decide +kernel
theorem dX12_fault_24 : decode cX12_fault 24 = .ok (.aload_n 0, 1) := by decide +kernel
theorem dX12_fault_25 : decode cX12_fault 25 = .ok (.getfield 29, 3) := by decide +kernel
theorem dX12_fault_28 : decode cX12_fault 28 = .ok (.iconst 1, 1) := by decide +kernel
theorem dX12_fault_29 : decode cX12_fault 29 = .ok (.iconst 0, 1) := by decide +kernel
theorem dX12_fault_30 : decode cX12_fault 30 = .ok (.iastore, 1) := by decide +kernel
theorem dX12_fault_31 : decode cX12_fault 31 = .ok (.aload_n 0, 1) := by decide +kernel
theorem dX12_fault_32 : decode cX12_fault 32 = .ok (.iconst 0, 1) := by decide +kernel
theorem dX12_fault_33 : decode cX12_fault 33 = .ok (.putfield 90, 3) := by decide +kernel
theorem dX12_fault_36 : decode cX12_fault 36 = .ok (.aload_n 0, 1) := by decide +kernel
theorem dX12_fault_37 : decode cX12_fault 37 = .ok (.iconst 2, 1) := by decide +kernel
theorem dX12_fault_38 : decode cX12_fault 38 = .ok (.iconst 3, 1) := by decide +kernel
theorem dX12_fault_39 : decode cX12_fault 39 = .ok (.iconst 1, 1) := by decide +kernel
theorem dX12_fault_40 : decode cX12_fault 40 = .ok (.invokevirtual 84, 3) := by decide +kernel
theorem dX12_fault_43 : decode cX12_fault 43 = .ok (.aload_n 0, 1) := by decide +kernel
theorem dX12_fault_44 : decode cX12_fault 44 = .ok (.getfield 101, 3) := by decide +kernel
theorem dX12_fault_47 : decode cX12_fault 47 = .ok (.aload_n 0, 1) := by decide +kernel
theorem dX12_fault_48 : decode cX12_fault 48 = .ok (.getfield 98, 3) := by decide +kernel
theorem dX12_fault_51 : decode cX12_fault 51 = .ok (.if_icmp .ge 24, 3) := by decide +kernel
theorem dX12_fault_54 : decode cX12_fault 54 = .ok (.aload_n 0, 1) := by decide +kernel
theorem dX12_fault_55 : decode cX12_fault 55 = .ok (.getfield 101, 3) := by decide +kernel
theorem dX12_fault_58 : decode cX12_fault 58 = .ok (.istore_n 1, 1) := by decide +kernel
theorem dX12_fault_59 : decode cX12_fault 59 = .ok (.aload_n 0, 1) := by decide +kernel
theorem dX12_fault_60 : decode cX12_fault 60 = .ok (.invokevirtual 126, 3) := by decide +kernel
theorem dX12_fault_63 : decode cX12_fault 63 = .ok (.aload_n 0, 1) := by decide +kernel
theorem dX12_fault_64 : decode cX12_fault 64 = .ok (.getfield 108, 3) := by decide +kernel
theorem dX12_fault_67 : decode cX12_fault 67 = .ok (.ifCond .ne 5, 3) := by decide +kernel
theorem dX12_fault_70 : decode cX12_fault 70 = .ok (.iload_n 1, 1) := by decide +kernel
theorem dX12_fault_71 : decode cX12_fault 71 = .ok (.ireturn, 1) := by decide +kernel
theorem dX12_fault_72 : decode cX12_fault 72 = .ok (.goto (-29), 3) := by decide +kernel
theorem dX12_fault_75 : decode cX12_fault 75 = .ok (.bipush (-4), 2) := by decide +kernel
theorem dX12_fault_77 : decode cX12_fault 77 = .ok (.ireturn, 1) := by decide +kernel
theorem dX12_takeDraft_0 : decode cX12_takeDraft 0 = .ok (.aload_n 0, 1) := by decide +kernel
theorem dX12_takeDraft_1 : decode cX12_takeDraft 1 = .ok (.getfield 13, 3) := by decide +kernel
theorem dX12_takeDraft_4 : decode cX12_takeDraft 4 = .ok (.iconst 0, 1) := by decide +kernel
theorem dX12_takeDraft_5 : decode cX12_takeDraft 5 = .ok (.aload_n 0, 1) := by decide +kernel
theorem dX12_takeDraft_6 : decode cX12_takeDraft 6 = .ok (.getfield 13, 3) := by decide +kernel
theorem dX12_takeDraft_9 : decode cX12_takeDraft 9 = .ok (.iconst 1, 1) := by decide +kernel
theorem dX12_takeDraft_10 : decode cX12_takeDraft 10 = .ok (.iaload, 1) := by decide +kernel
theorem dX12_takeDraft_11 : decode cX12_takeDraft 11 = .ok (.iastore, 1) := by decide +kernel
theorem dX12_takeDraft_12 : decode cX12_takeDraft 12 = .ok (.aload_n 0, 1) := by decide +kernel
theorem dX12_takeDraft_13 : decode cX12_takeDraft 13 = .ok (.getfield 17, 3) := by decide +kernel
theorem dX12_takeDraft_16 : decode cX12_takeDraft 16 = .ok (.iconst 0, 1) := by decide +kernel
theorem dX12_takeDraft_17 : decode cX12_takeDraft 17 = .ok (.aload_n 0, 1) := by decide +kernel
theorem dX12_takeDraft_18 : decode cX12_takeDraft 18 = .ok (.getfield 17, 3) := by decide +kernel
theorem dX12_takeDraft_21 : decode cX12_takeDraft 21 = .ok (.iconst 1, 1) := by decide +kernel
theorem dX12_takeDraft_22 : decode cX12_takeDraft 22 = .ok (.iaload, 1) := by decide +kernel
theorem dX12_takeDraft_23 : decode cX12_takeDraft 23 = .ok (.iastore, 1) := by decide +kernel
theorem dX12_takeDraft_24 : decode cX12_takeDraft 24 = .ok (.aload_n 0, 1) := by decide +kernel
theorem dX12_takeDraft_25 : decode cX12_takeDraft 25 = .ok (.getfield 29, 3) := by decide +kernel
theorem dX12_takeDraft_28 : decode cX12_takeDraft 28 = .ok (.iconst 0, 1) := by decide +kernel
theorem dX12_takeDraft_29 : decode cX12_takeDraft 29 = .ok (.aload_n 0, 1) := by decide +kernel
theorem dX12_takeDraft_30 : decode cX12_takeDraft 30 = .ok (.getfield 29, 3) := by decide +kernel
theorem dX12_takeDraft_33 : decode cX12_takeDraft 33 = .ok (.iconst 1, 1) := by decide +kernel
theorem dX12_takeDraft_34 : decode cX12_takeDraft 34 = .ok (.iaload, 1) := by decide +kernel
theorem dX12_takeDraft_35 : decode cX12_takeDraft 35 = .ok (.iastore, 1) := by decide +kernel
theorem dX12_takeDraft_36 : decode cX12_takeDraft 36 = .ok (.iconst 0, 1) := by decide +kernel
theorem dX12_takeDraft_37 : decode cX12_takeDraft 37 = .ok (.istore_n 1, 1) := by decide +kernel
theorem dX12_takeDraft_38 : decode cX12_takeDraft 38 = .ok (.iload_n 1, 1) := by decide +kernel
theorem dX12_takeDraft_39 : decode cX12_takeDraft 39 = .ok (.bipush 12, 2) := by decide +kernel
theorem dX12_takeDraft_41 : decode cX12_takeDraft 41 = .ok (.if_icmp .ge 54, 3) := by decide +kernel
theorem dX12_takeDraft_44 : decode cX12_takeDraft 44 = .ok (.aload_n 0, 1) := by decide +kernel
theorem dX12_takeDraft_45 : decode cX12_takeDraft 45 = .ok (.getfield 20, 3) := by decide +kernel
theorem dX12_takeDraft_48 : decode cX12_takeDraft 48 = .ok (.iload_n 1, 1) := by decide +kernel
theorem dX12_takeDraft_49 : decode cX12_takeDraft 49 = .ok (.aload_n 0, 1) := by decide +kernel
theorem dX12_takeDraft_50 : decode cX12_takeDraft 50 = .ok (.getfield 20, 3) := by decide +kernel
theorem dX12_takeDraft_53 : decode cX12_takeDraft 53 = .ok (.bipush 12, 2) := by decide +kernel
theorem dX12_takeDraft_55 : decode cX12_takeDraft 55 = .ok (.iload_n 1, 1) := by decide +kernel
theorem dX12_takeDraft_56 : decode cX12_takeDraft 56 = .ok (.iadd, 1) := by decide +kernel
theorem dX12_takeDraft_57 : decode cX12_takeDraft 57 = .ok (.iaload, 1) := by decide +kernel
theorem dX12_takeDraft_58 : decode cX12_takeDraft 58 = .ok (.iastore, 1) := by decide +kernel
theorem dX12_takeDraft_59 : decode cX12_takeDraft 59 = .ok (.aload_n 0, 1) := by decide +kernel
theorem dX12_takeDraft_60 : decode cX12_takeDraft 60 = .ok (.getfield 23, 3) := by decide +kernel
theorem dX12_takeDraft_63 : decode cX12_takeDraft 63 = .ok (.iload_n 1, 1) := by decide +kernel
theorem dX12_takeDraft_64 : decode cX12_takeDraft 64 = .ok (.aload_n 0, 1) := by decide +kernel
theorem dX12_takeDraft_65 : decode cX12_takeDraft 65 = .ok (.getfield 23, 3) := by decide +kernel
theorem dX12_takeDraft_68 : decode cX12_takeDraft 68 = .ok (.bipush 12, 2) := by decide +kernel
theorem dX12_takeDraft_70 : decode cX12_takeDraft 70 = .ok (.iload_n 1, 1) := by decide +kernel
theorem dX12_takeDraft_71 : decode cX12_takeDraft 71 = .ok (.iadd, 1) := by decide +kernel
theorem dX12_takeDraft_72 : decode cX12_takeDraft 72 = .ok (.iaload, 1) := by decide +kernel
theorem dX12_takeDraft_73 : decode cX12_takeDraft 73 = .ok (.iastore, 1) := by decide +kernel
theorem dX12_takeDraft_74 : decode cX12_takeDraft 74 = .ok (.aload_n 0, 1) := by decide +kernel
theorem dX12_takeDraft_75 : decode cX12_takeDraft 75 = .ok (.getfield 26, 3) := by decide +kernel
theorem dX12_takeDraft_78 : decode cX12_takeDraft 78 = .ok (.iload_n 1, 1) := by decide +kernel
theorem dX12_takeDraft_79 : decode cX12_takeDraft 79 = .ok (.aload_n 0, 1) := by decide +kernel
theorem dX12_takeDraft_80 : decode cX12_takeDraft 80 = .ok (.getfield 26, 3) := by decide +kernel
theorem dX12_takeDraft_83 : decode cX12_takeDraft 83 = .ok (.bipush 12, 2) := by decide +kernel
theorem dX12_takeDraft_85 : decode cX12_takeDraft 85 = .ok (.iload_n 1, 1) := by decide +kernel
theorem dX12_takeDraft_86 : decode cX12_takeDraft 86 = .ok (.iadd, 1) := by decide +kernel
theorem dX12_takeDraft_87 : decode cX12_takeDraft 87 = .ok (.iaload, 1) := by decide +kernel
theorem dX12_takeDraft_88 : decode cX12_takeDraft 88 = .ok (.iastore, 1) := by decide +kernel
theorem dX12_takeDraft_89 : decode cX12_takeDraft 89 = .ok (.iinc 1 1, 3) := by decide +kernel
theorem dX12_takeDraft_92 : decode cX12_takeDraft 92 = .ok (.goto (-54), 3) := by decide +kernel
theorem dX12_takeDraft_95 : decode cX12_takeDraft 95 = .ok (.iconst 0, 1) := by decide +kernel
theorem dX12_takeDraft_96 : decode cX12_takeDraft 96 = .ok (.istore_n 1, 1) := by decide +kernel
theorem dX12_takeDraft_97 : decode cX12_takeDraft 97 = .ok (.iload_n 1, 1) := by decide +kernel
theorem dX12_takeDraft_98 : decode cX12_takeDraft 98 = .ok (.iconst 4, 1) := by decide +kernel
theorem dX12_takeDraft_99 : decode cX12_takeDraft 99 = .ok (.if_icmp .ge 66, 3) := by decide +kernel
theorem dX12_takeDraft_102 : decode cX12_takeDraft 102 = .ok (.aload_n 0, 1) := by decide +kernel
theorem dX12_takeDraft_103 : decode cX12_takeDraft 103 = .ok (.getfield 32, 3) := by decide +kernel
theorem dX12_takeDraft_106 : decode cX12_takeDraft 106 = .ok (.iload_n 1, 1) := by decide +kernel
theorem dX12_takeDraft_107 : decode cX12_takeDraft 107 = .ok (.aload_n 0, 1) := by decide +kernel
theorem dX12_takeDraft_108 : decode cX12_takeDraft 108 = .ok (.getfield 32, 3) := by decide +kernel
theorem dX12_takeDraft_111 : decode cX12_takeDraft 111 = .ok (.iconst 4, 1) := by decide +kernel
theorem dX12_takeDraft_112 : decode cX12_takeDraft 112 = .ok (.iload_n 1, 1) := by decide +kernel
theorem dX12_takeDraft_113 : decode cX12_takeDraft 113 = .ok (.iadd, 1) := by decide +kernel
theorem dX12_takeDraft_114 : decode cX12_takeDraft 114 = .ok (.iaload, 1) := by decide +kernel
theorem dX12_takeDraft_115 : decode cX12_takeDraft 115 = .ok (.iastore, 1) := by decide +kernel
theorem dX12_takeDraft_116 : decode cX12_takeDraft 116 = .ok (.aload_n 0, 1) := by decide +kernel
theorem dX12_takeDraft_117 : decode cX12_takeDraft 117 = .ok (.getfield 35, 3) := by decide +kernel
theorem dX12_takeDraft_120 : decode cX12_takeDraft 120 = .ok (.iload_n 1, 1) := by decide +kernel
theorem dX12_takeDraft_121 : decode cX12_takeDraft 121 = .ok (.aload_n 0, 1) := by decide +kernel
theorem dX12_takeDraft_122 : decode cX12_takeDraft 122 = .ok (.getfield 35, 3) := by decide +kernel
theorem dX12_takeDraft_125 : decode cX12_takeDraft 125 = .ok (.iconst 4, 1) := by decide +kernel
theorem dX12_takeDraft_126 : decode cX12_takeDraft 126 = .ok (.iload_n 1, 1) := by decide +kernel
theorem dX12_takeDraft_127 : decode cX12_takeDraft 127 = .ok (.iadd, 1) := by decide +kernel
theorem dX12_takeDraft_128 : decode cX12_takeDraft 128 = .ok (.iaload, 1) := by decide +kernel
theorem dX12_takeDraft_129 : decode cX12_takeDraft 129 = .ok (.iastore, 1) := by decide +kernel
theorem dX12_takeDraft_130 : decode cX12_takeDraft 130 = .ok (.aload_n 0, 1) := by decide +kernel
theorem dX12_takeDraft_131 : decode cX12_takeDraft 131 = .ok (.getfield 38, 3) := by decide +kernel
theorem dX12_takeDraft_134 : decode cX12_takeDraft 134 = .ok (.iload_n 1, 1) := by decide +kernel
theorem dX12_takeDraft_135 : decode cX12_takeDraft 135 = .ok (.aload_n 0, 1) := by decide +kernel
theorem dX12_takeDraft_136 : decode cX12_takeDraft 136 = .ok (.getfield 38, 3) := by decide +kernel
theorem dX12_takeDraft_139 : decode cX12_takeDraft 139 = .ok (.iconst 4, 1) := by decide +kernel
theorem dX12_takeDraft_140 : decode cX12_takeDraft 140 = .ok (.iload_n 1, 1) := by decide +kernel
theorem dX12_takeDraft_141 : decode cX12_takeDraft 141 = .ok (.iadd, 1) := by decide +kernel
theorem dX12_takeDraft_142 : decode cX12_takeDraft 142 = .ok (.iaload, 1) := by decide +kernel
theorem dX12_takeDraft_143 : decode cX12_takeDraft 143 = .ok (.iastore, 1) := by decide +kernel
theorem dX12_takeDraft_144 : decode cX12_takeDraft 144 = .ok (.aload_n 0, 1) := by decide +kernel
theorem dX12_takeDraft_145 : decode cX12_takeDraft 145 = .ok (.getfield 47, 3) := by decide +kernel
theorem dX12_takeDraft_148 : decode cX12_takeDraft 148 = .ok (.bipush 28, 2) := by decide +kernel
theorem dX12_takeDraft_150 : decode cX12_takeDraft 150 = .ok (.iload_n 1, 1) := by decide +kernel
theorem dX12_takeDraft_151 : decode cX12_takeDraft 151 = .ok (.iadd, 1) := by decide +kernel
theorem dX12_takeDraft_152 : decode cX12_takeDraft 152 = .ok (.aload_n 0, 1) := by decide +kernel
theorem dX12_takeDraft_153 : decode cX12_takeDraft 153 = .ok (.getfield 38, 3) := by decide +kernel
theorem dX12_takeDraft_156 : decode cX12_takeDraft 156 = .ok (.iload_n 1, 1) := by decide +kernel
theorem dX12_takeDraft_157 : decode cX12_takeDraft 157 = .ok (.iaload, 1) := by decide +kernel
theorem dX12_takeDraft_158 : decode cX12_takeDraft 158 = .ok (.iastore, 1) := by decide +kernel
theorem dX12_takeDraft_159 : decode cX12_takeDraft 159 = .ok (.iinc 1 1, 3) := by decide +kernel
theorem dX12_takeDraft_162 : decode cX12_takeDraft 162 = .ok (.goto (-65), 3) := by decide +kernel
theorem dX12_takeDraft_165 : decode cX12_takeDraft 165 = .ok (.iconst 0, 1) := by decide +kernel
theorem dX12_takeDraft_166 : decode cX12_takeDraft 166 = .ok (.istore_n 1, 1) := by decide +kernel
theorem dX12_takeDraft_167 : decode cX12_takeDraft 167 = .ok (.iload_n 1, 1) := by decide +kernel
theorem dX12_takeDraft_168 : decode cX12_takeDraft 168 = .ok (.iconst 3, 1) := by decide +kernel
theorem dX12_takeDraft_169 : decode cX12_takeDraft 169 = .ok (.if_icmp .ge 23, 3) := by decide +kernel
theorem dX12_takeDraft_172 : decode cX12_takeDraft 172 = .ok (.aload_n 0, 1) := by decide +kernel
theorem dX12_takeDraft_173 : decode cX12_takeDraft 173 = .ok (.getfield 41, 3) := by decide +kernel
theorem dX12_takeDraft_176 : decode cX12_takeDraft 176 = .ok (.iload_n 1, 1) := by decide +kernel
theorem dX12_takeDraft_177 : decode cX12_takeDraft 177 = .ok (.aload_n 0, 1) := by decide +kernel
theorem dX12_takeDraft_178 : decode cX12_takeDraft 178 = .ok (.getfield 41, 3) := by decide +kernel
theorem dX12_takeDraft_181 : decode cX12_takeDraft 181 = .ok (.iconst 3, 1) := by decide +kernel
theorem dX12_takeDraft_182 : decode cX12_takeDraft 182 = .ok (.iload_n 1, 1) := by decide +kernel
theorem dX12_takeDraft_183 : decode cX12_takeDraft 183 = .ok (.iadd, 1) := by decide +kernel
theorem dX12_takeDraft_184 : decode cX12_takeDraft 184 = .ok (.iaload, 1) := by decide +kernel
end
section
theorem dX12_takeDraft_185 : decode cX12_takeDraft 185 = .ok (.iastore, 1) := by decide +kernel
theorem dX12_takeDraft_186 : decode cX12_takeDraft 186 = .ok (.iinc 1 1, 3) := by decide +kernel
theorem dX12_takeDraft_189 : decode cX12_takeDraft 189 = .ok (.goto (-22), 3) := by decide +kernel
theorem dX12_takeDraft_192 : decode cX12_takeDraft 192 = .ok (.aload_n 0, 1) := by decide +kernel
theorem dX12_takeDraft_193 : decode cX12_takeDraft 193 = .ok (.getfield 47, 3) := by decide +kernel
theorem dX12_takeDraft_196 : decode cX12_takeDraft 196 = .ok (.iconst 0, 1) := by decide +kernel
theorem dX12_takeDraft_197 : decode cX12_takeDraft 197 = .ok (.aload_n 0, 1) := by decide +kernel
theorem dX12_takeDraft_198 : decode cX12_takeDraft 198 = .ok (.getfield 90, 3) := by decide +kernel
theorem dX12_takeDraft_201 : decode cX12_takeDraft 201 = .ok (.iastore, 1) := by decide +kernel
theorem dX12_takeDraft_202 : decode cX12_takeDraft 202 = .ok (.iconst 0, 1) := by decide +kernel
theorem dX12_takeDraft_203 : decode cX12_takeDraft 203 = .ok (.istore_n 1, 1) := by decide +kernel
theorem dX12_takeDraft_204 : decode cX12_takeDraft 204 = .ok (.iload_n 1, 1) := by decide +kernel
theorem dX12_takeDraft_205 : decode cX12_takeDraft 205 = .ok (.iconst 3, 1) := by decide +kernel
theorem dX12_takeDraft_206 : decode cX12_takeDraft 206 = .ok (.aload_n 0, 1) := by decide +kernel
theorem dX12_takeDraft_207 : decode cX12_takeDraft 207 = .ok (.getfield 90, 3) := by decide +kernel
theorem dX12_takeDraft_210 : decode cX12_takeDraft 210 = .ok (.imul, 1) := by decide +kernel
theorem dX12_takeDraft_211 : decode cX12_takeDraft 211 = .ok (.if_icmp .ge 23, 3) := by decide +kernel
theorem dX12_takeDraft_214 : decode cX12_takeDraft 214 = .ok (.aload_n 0, 1) := by decide +kernel
theorem dX12_takeDraft_215 : decode cX12_takeDraft 215 = .ok (.getfield 47, 3) := by decide +kernel
theorem dX12_takeDraft_218 : decode cX12_takeDraft 218 = .ok (.iconst 1, 1) := by decide +kernel
theorem dX12_takeDraft_219 : decode cX12_takeDraft 219 = .ok (.iload_n 1, 1) := by decide +kernel
theorem dX12_takeDraft_220 : decode cX12_takeDraft 220 = .ok (.iadd, 1) := by decide +kernel
theorem dX12_takeDraft_221 : decode cX12_takeDraft 221 = .ok (.aload_n 0, 1) := by decide +kernel
theorem dX12_takeDraft_222 : decode cX12_takeDraft 222 = .ok (.getfield 44, 3) := by decide +kernel
theorem dX12_takeDraft_225 : decode cX12_takeDraft 225 = .ok (.iload_n 1, 1) := by decide +kernel
theorem dX12_takeDraft_226 : decode cX12_takeDraft 226 = .ok (.iaload, 1) := by decide +kernel
theorem dX12_takeDraft_227 : decode cX12_takeDraft 227 = .ok (.iastore, 1) := by decide +kernel
theorem dX12_takeDraft_228 : decode cX12_takeDraft 228 = .ok (.iinc 1 1, 3) := by decide +kernel
theorem dX12_takeDraft_231 : decode cX12_takeDraft 231 = .ok (.goto (-27), 3) := by decide +kernel
theorem dX12_takeDraft_234 : decode cX12_takeDraft 234 = .ok (.aload_n 0, 1) := by decide +kernel
theorem dX12_takeDraft_235 : decode cX12_takeDraft 235 = .ok (.iconst 0, 1) := by decide +kernel
theorem dX12_takeDraft_236 : decode cX12_takeDraft 236 = .ok (.putfield 129, 3) := by decide +kernel
theorem dX12_takeDraft_239 : decode cX12_takeDraft 239 = .ok (.aload_n 0, 1) := by decide +kernel
theorem dX12_takeDraft_240 : decode cX12_takeDraft 240 = .ok (.iconst 0, 1) := by decide +kernel
theorem dX12_takeDraft_241 : decode cX12_takeDraft 241 = .ok (.putfield 132, 3) := by decide +kernel
theorem dX12_takeDraft_244 : decode cX12_takeDraft 244 = .ok (.aload_n 0, 1) := by decide +kernel
theorem dX12_takeDraft_245 : decode cX12_takeDraft 245 = .ok (.iconst 0, 1) := by decide +kernel
theorem dX12_takeDraft_246 : decode cX12_takeDraft 246 = .ok (.putfield 135, 3) := by decide +kernel
theorem dX12_takeDraft_249 : decode cX12_takeDraft 249 = .ok (.aload_n 0, 1) := by decide +kernel
theorem dX12_takeDraft_250 : decode cX12_takeDraft 250 = .ok (.bipush (-4), 2) := by decide +kernel
theorem dX12_takeDraft_252 : decode cX12_takeDraft 252 = .ok (.invokevirtual 138, 3) := by decide +kernel
theorem dX12_takeDraft_255 : decode cX12_takeDraft 255 = .ok (.return_, 1) := by decide +kernel
theorem dX12_lay_0 : decode cX12_lay 0 = .ok (.aload_n 0, 1) := by decide +kernel
theorem dX12_lay_1 : decode cX12_lay 1 = .ok (.invokevirtual 142, 3) := by decide +kernel
theorem dX12_lay_4 : decode cX12_lay 4 = .ok (.bipush (-4), 2) := by decide +kernel
theorem dX12_lay_6 : decode cX12_lay 6 = .ok (.if_icmp .ne 12, 3) := by decide +kernel
theorem dX12_lay_9 : decode cX12_lay 9 = .ok (.aload_n 0, 1) := by decide +kernel
theorem dX12_lay_10 : decode cX12_lay 10 = .ok (.getfield 29, 3) := by decide +kernel
theorem dX12_lay_13 : decode cX12_lay 13 = .ok (.iconst 1, 1) := by decide +kernel
theorem dX12_lay_14 : decode cX12_lay 14 = .ok (.iaload, 1) := by decide +kernel
theorem dX12_lay_15 : decode cX12_lay 15 = .ok (.ifCond .ne 6, 3) := by decide +kernel
theorem dX12_lay_18 : decode cX12_lay 18 = .ok (.bipush (-2), 2) := by decide +kernel
theorem dX12_lay_20 : decode cX12_lay 20 = .ok (.ireturn, 1) := by decide +kernel
theorem dX12_lay_21 : decode cX12_lay 21 = .ok (.aload_n 0, 1) := by decide +kernel
theorem dX12_lay_22 : decode cX12_lay 22 = .ok (.invokevirtual 87, 3) := by decide +kernel
theorem dX12_lay_25 : decode cX12_lay 25 = .ok (.aload_n 0, 1) := by decide +kernel
theorem dX12_lay_26 : decode cX12_lay 26 = .ok (.getfield 13, 3) := by decide +kernel
theorem dX12_lay_29 : decode cX12_lay 29 = .ok (.iconst 0, 1) := by decide +kernel
theorem dX12_lay_30 : decode cX12_lay 30 = .ok (.iaload, 1) := by decide +kernel
theorem dX12_lay_31 : decode cX12_lay 31 = .ok (.ireturn, 1) := by decide +kernel
theorem dX12_copy_0 : decode cX12_copy 0 = .ok (.iconst 0, 1) := by decide +kernel
theorem dX12_copy_1 : decode cX12_copy 1 = .ok (.istore_n 3, 1) := by decide +kernel
theorem dX12_copy_2 : decode cX12_copy 2 = .ok (.iload_n 3, 1) := by decide +kernel
theorem dX12_copy_3 : decode cX12_copy 3 = .ok (.bipush 32, 2) := by decide +kernel
theorem dX12_copy_5 : decode cX12_copy 5 = .ok (.if_icmp .ge 25, 3) := by decide +kernel
theorem dX12_copy_8 : decode cX12_copy 8 = .ok (.aload_n 0, 1) := by decide +kernel
theorem dX12_copy_9 : decode cX12_copy 9 = .ok (.getfield 47, 3) := by decide +kernel
theorem dX12_copy_12 : decode cX12_copy 12 = .ok (.iload_n 2, 1) := by decide +kernel
theorem dX12_copy_13 : decode cX12_copy 13 = .ok (.iload_n 3, 1) := by decide +kernel
theorem dX12_copy_14 : decode cX12_copy 14 = .ok (.iadd, 1) := by decide +kernel
theorem dX12_copy_15 : decode cX12_copy 15 = .ok (.aload_n 0, 1) := by decide +kernel
theorem dX12_copy_16 : decode cX12_copy 16 = .ok (.getfield 47, 3) := by decide +kernel
theorem dX12_copy_19 : decode cX12_copy 19 = .ok (.iload_n 1, 1) := by decide +kernel
theorem dX12_copy_20 : decode cX12_copy 20 = .ok (.iload_n 3, 1) := by decide +kernel
theorem dX12_copy_21 : decode cX12_copy 21 = .ok (.iadd, 1) := by decide +kernel
theorem dX12_copy_22 : decode cX12_copy 22 = .ok (.iaload, 1) := by decide +kernel
theorem dX12_copy_23 : decode cX12_copy 23 = .ok (.iastore, 1) := by decide +kernel
theorem dX12_copy_24 : decode cX12_copy 24 = .ok (.iinc 3 1, 3) := by decide +kernel
theorem dX12_copy_27 : decode cX12_copy 27 = .ok (.goto (-25), 3) := by decide +kernel
theorem dX12_copy_30 : decode cX12_copy 30 = .ok (.return_, 1) := by decide +kernel
theorem dX12_isCorner_0 : decode cX12_isCorner 0 = .ok (.iload_n 1, 1) := by decide +kernel
theorem dX12_isCorner_1 : decode cX12_isCorner 1 = .ok (.iconst 0, 1) := by decide +kernel
theorem dX12_isCorner_2 : decode cX12_isCorner 2 = .ok (.aload_n 0, 1) := by decide +kernel
theorem dX12_isCorner_3 : decode cX12_isCorner 3 = .ok (.getfield 13, 3) := by decide +kernel
theorem dX12_isCorner_6 : decode cX12_isCorner 6 = .ok (.iconst 0, 1) := by decide +kernel
theorem dX12_isCorner_7 : decode cX12_isCorner 7 = .ok (.iaload, 1) := by decide +kernel
theorem dX12_isCorner_8 : decode cX12_isCorner 8 = .ok (.iconst 1, 1) := by decide +kernel
theorem dX12_isCorner_9 : decode cX12_isCorner 9 = .ok (.isub, 1) := by decide +kernel
theorem dX12_isCorner_10 : decode cX12_isCorner 10 = .ok (.invokestatic 94, 3) := by decide +kernel
theorem dX12_isCorner_13 : decode cX12_isCorner 13 = .ok (.ireturn, 1) := by decide +kernel
theorem dX12_isWalker_0 : decode cX12_isWalker 0 = .ok (.iload_n 1, 1) := by decide +kernel
theorem dX12_isWalker_1 : decode cX12_isWalker 1 = .ok (.iconst 0, 1) := by decide +kernel
theorem dX12_isWalker_2 : decode cX12_isWalker 2 = .ok (.aload_n 0, 1) := by decide +kernel
theorem dX12_isWalker_3 : decode cX12_isWalker 3 = .ok (.getfield 29, 3) := by decide +kernel
theorem dX12_isWalker_6 : decode cX12_isWalker 6 = .ok (.iconst 0, 1) := by decide +kernel
theorem dX12_isWalker_7 : decode cX12_isWalker 7 = .ok (.iaload, 1) := by decide +kernel
theorem dX12_isWalker_8 : decode cX12_isWalker 8 = .ok (.iconst 1, 1) := by decide +kernel
theorem dX12_isWalker_9 : decode cX12_isWalker 9 = .ok (.isub, 1) := by decide +kernel
theorem dX12_isWalker_10 : decode cX12_isWalker 10 = .ok (.invokestatic 94, 3) := by decide +kernel
theorem dX12_isWalker_13 : decode cX12_isWalker 13 = .ok (.ireturn, 1) := by decide +kernel
theorem dX12_isSign_0 : decode cX12_isSign 0 = .ok (.iload_n 1, 1) := by decide +kernel
theorem dX12_isSign_1 : decode cX12_isSign 1 = .ok (.iconst 0, 1) := by decide +kernel
theorem dX12_isSign_2 : decode cX12_isSign 2 = .ok (.aload_n 0, 1) := by decide +kernel
theorem dX12_isSign_3 : decode cX12_isSign 3 = .ok (.getfield 47, 3) := by decide +kernel
theorem dX12_isSign_6 : decode cX12_isSign 6 = .ok (.iconst 0, 1) := by decide +kernel
theorem dX12_isSign_7 : decode cX12_isSign 7 = .ok (.iaload, 1) := by decide +kernel
theorem dX12_isSign_8 : decode cX12_isSign 8 = .ok (.iconst 1, 1) := by decide +kernel
theorem dX12_isSign_9 : decode cX12_isSign 9 = .ok (.isub, 1) := by decide +kernel
theorem dX12_isSign_10 : decode cX12_isSign 10 = .ok (.invokestatic 94, 3) := by decide +kernel
theorem dX12_isSign_13 : decode cX12_isSign 13 = .ok (.ireturn, 1) := by decide +kernel
theorem dX12_measure_0 : decode cX12_measure 0 = .ok (.iconst 0, 1) := by decide +kernel
theorem dX12_measure_1 : decode cX12_measure 1 = .ok (.istore_n 2, 1) := by decide +kernel
theorem dX12_measure_2 : decode cX12_measure 2 = .ok (.iload_n 2, 1) := by decide +kernel
theorem dX12_measure_3 : decode cX12_measure 3 = .ok (.bipush 64, 2) := by decide +kernel
theorem dX12_measure_5 : decode cX12_measure 5 = .ok (.if_icmp .ge 18, 3) := by decide +kernel
theorem dX12_measure_8 : decode cX12_measure 8 = .ok (.aload_n 0, 1) := by decide +kernel
theorem dX12_measure_9 : decode cX12_measure 9 = .ok (.getfield 50, 3) := by decide +kernel
theorem dX12_measure_12 : decode cX12_measure 12 = .ok (.iload_n 2, 1) := by decide +kernel
theorem dX12_measure_13 : decode cX12_measure 13 = .ok (.sipush 10000, 3) := by decide +kernel
theorem dX12_measure_16 : decode cX12_measure 16 = .ok (.iastore, 1) := by decide +kernel
theorem dX12_measure_17 : decode cX12_measure 17 = .ok (.iinc 2 1, 3) := by decide +kernel
theorem dX12_measure_20 : decode cX12_measure 20 = .ok (.goto (-18), 3) := by decide +kernel
theorem dX12_measure_23 : decode cX12_measure 23 = .ok (.iconst 0, 1) := by decide +kernel
theorem dX12_measure_24 : decode cX12_measure 24 = .ok (.istore_n 2, 1) := by decide +kernel
theorem dX12_measure_25 : decode cX12_measure 25 = .ok (.iload_n 2, 1) := by decide +kernel
theorem dX12_measure_26 : decode cX12_measure 26 = .ok (.aload_n 0, 1) := by decide +kernel
theorem dX12_measure_27 : decode cX12_measure 27 = .ok (.getfield 17, 3) := by decide +kernel
theorem dX12_measure_30 : decode cX12_measure 30 = .ok (.iconst 0, 1) := by decide +kernel
theorem dX12_measure_31 : decode cX12_measure 31 = .ok (.iaload, 1) := by decide +kernel
theorem dX12_measure_32 : decode cX12_measure 32 = .ok (.if_icmp .ge 68, 3) := by decide +kernel
theorem dX12_measure_35 : decode cX12_measure 35 = .ok (.iload_n 2, 1) := by decide +kernel
theorem dX12_measure_36 : decode cX12_measure 36 = .ok (.iload_n 1, 1) := by decide +kernel
theorem dX12_measure_37 : decode cX12_measure 37 = .ok (.if_icmp .eq 57, 3) := by decide +kernel
theorem dX12_measure_40 : decode cX12_measure 40 = .ok (.aload_n 0, 1) := by decide +kernel
theorem dX12_measure_41 : decode cX12_measure 41 = .ok (.getfield 50, 3) := by decide +kernel
theorem dX12_measure_44 : decode cX12_measure 44 = .ok (.bipush 8, 2) := by decide +kernel
theorem dX12_measure_46 : decode cX12_measure 46 = .ok (.aload_n 0, 1) := by decide +kernel
theorem dX12_measure_47 : decode cX12_measure 47 = .ok (.getfield 20, 3) := by decide +kernel
theorem dX12_measure_50 : decode cX12_measure 50 = .ok (.iload_n 2, 1) := by decide +kernel
theorem dX12_measure_51 : decode cX12_measure 51 = .ok (.iaload, 1) := by decide +kernel
theorem dX12_measure_52 : decode cX12_measure 52 = .ok (.imul, 1) := by decide +kernel
theorem dX12_measure_53 : decode cX12_measure 53 = .ok (.aload_n 0, 1) := by decide +kernel
theorem dX12_measure_54 : decode cX12_measure 54 = .ok (.getfield 23, 3) := by decide +kernel
theorem dX12_measure_57 : decode cX12_measure 57 = .ok (.iload_n 2, 1) := by decide +kernel
theorem dX12_measure_58 : decode cX12_measure 58 = .ok (.iaload, 1) := by decide +kernel
theorem dX12_measure_59 : decode cX12_measure 59 = .ok (.iadd, 1) := by decide +kernel
theorem dX12_measure_60 : decode cX12_measure 60 = .ok (.aload_n 0, 1) := by decide +kernel
theorem dX12_measure_61 : decode cX12_measure 61 = .ok (.getfield 26, 3) := by decide +kernel
theorem dX12_measure_64 : decode cX12_measure 64 = .ok (.iload_n 2, 1) := by decide +kernel
theorem dX12_measure_65 : decode cX12_measure 65 = .ok (.iaload, 1) := by decide +kernel
theorem dX12_measure_66 : decode cX12_measure 66 = .ok (.iastore, 1) := by decide +kernel
theorem dX12_measure_67 : decode cX12_measure 67 = .ok (.aload_n 0, 1) := by decide +kernel
theorem dX12_measure_68 : decode cX12_measure 68 = .ok (.getfield 50, 3) := by decide +kernel
theorem dX12_measure_71 : decode cX12_measure 71 = .ok (.bipush 8, 2) := by decide +kernel
theorem dX12_measure_73 : decode cX12_measure 73 = .ok (.aload_n 0, 1) := by decide +kernel
theorem dX12_measure_74 : decode cX12_measure 74 = .ok (.getfield 23, 3) := by decide +kernel
theorem dX12_measure_77 : decode cX12_measure 77 = .ok (.iload_n 2, 1) := by decide +kernel
theorem dX12_measure_78 : decode cX12_measure 78 = .ok (.iaload, 1) := by decide +kernel
theorem dX12_measure_79 : decode cX12_measure 79 = .ok (.imul, 1) := by decide +kernel
theorem dX12_measure_80 : decode cX12_measure 80 = .ok (.aload_n 0, 1) := by decide +kernel
theorem dX12_measure_81 : decode cX12_measure 81 = .ok (.getfield 20, 3) := by decide +kernel
theorem dX12_measure_84 : decode cX12_measure 84 = .ok (.iload_n 2, 1) := by decide +kernel
theorem dX12_measure_85 : decode cX12_measure 85 = .ok (.iaload, 1) := by decide +kernel
theorem dX12_measure_86 : decode cX12_measure 86 = .ok (.iadd, 1) := by decide +kernel
theorem dX12_measure_87 : decode cX12_measure 87 = .ok (.aload_n 0, 1) := by decide +kernel
theorem dX12_measure_88 : decode cX12_measure 88 = .ok (.getfield 26, 3) := by decide +kernel
theorem dX12_measure_91 : decode cX12_measure 91 = .ok (.iload_n 2, 1) := by decide +kernel
theorem dX12_measure_92 : decode cX12_measure 92 = .ok (.iaload, 1) := by decide +kernel
theorem dX12_measure_93 : decode cX12_measure 93 = .ok (.iastore, 1) := by decide +kernel
theorem dX12_measure_94 : decode cX12_measure 94 = .ok (.iinc 2 1, 3) := by decide +kernel
theorem dX12_measure_97 : decode cX12_measure 97 = .ok (.goto (-72), 3) := by decide +kernel
theorem dX12_measure_100 : decode cX12_measure 100 = .ok (.iconst 0, 1) := by decide +kernel
theorem dX12_measure_101 : decode cX12_measure 101 = .ok (.istore_n 2, 1) := by decide +kernel
theorem dX12_measure_102 : decode cX12_measure 102 = .ok (.iload_n 2, 1) := by decide +kernel
theorem dX12_measure_103 : decode cX12_measure 103 = .ok (.bipush 64, 2) := by decide +kernel
theorem dX12_measure_105 : decode cX12_measure 105 = .ok (.if_icmp .ge 36, 3) := by decide +kernel
theorem dX12_measure_108 : decode cX12_measure 108 = .ok (.aload_n 0, 1) := by decide +kernel
theorem dX12_measure_109 : decode cX12_measure 109 = .ok (.getfield 53, 3) := by decide +kernel
theorem dX12_measure_112 : decode cX12_measure 112 = .ok (.iload_n 2, 1) := by decide +kernel
theorem dX12_measure_113 : decode cX12_measure 113 = .ok (.iload_n 2, 1) := by decide +kernel
theorem dX12_measure_114 : decode cX12_measure 114 = .ok (.bipush 8, 2) := by decide +kernel
theorem dX12_measure_116 : decode cX12_measure 116 = .ok (.idiv, 1) := by decide +kernel
theorem dX12_measure_117 : decode cX12_measure 117 = .ok (.iload_n 2, 1) := by decide +kernel
theorem dX12_measure_118 : decode cX12_measure 118 = .ok (.bipush 8, 2) := by decide +kernel
theorem dX12_measure_120 : decode cX12_measure 120 = .ok (.irem, 1) := by decide +kernel
theorem dX12_measure_121 : decode cX12_measure 121 = .ok (.if_icmp .ne 7, 3) := by decide +kernel
theorem dX12_measure_124 : decode cX12_measure 124 = .ok (.iconst 0, 1) := by decide +kernel
theorem dX12_measure_125 : decode cX12_measure 125 = .ok (.goto 9, 3) := by decide +kernel
theorem dX12_measure_128 : decode cX12_measure 128 = .ok (.aload_n 0, 1) := by decide +kernel
theorem dX12_measure_129 : decode cX12_measure 129 = .ok (.getfield 50, 3) := by decide +kernel
theorem dX12_measure_132 : decode cX12_measure 132 = .ok (.iload_n 2, 1) := by decide +kernel
theorem dX12_measure_133 : decode cX12_measure 133 = .ok (.iaload, 1) := by decide +kernel
theorem dX12_measure_134 : decode cX12_measure 134 = .ok (.iastore, 1) := by decide +kernel
theorem dX12_measure_135 : decode cX12_measure 135 = .ok (.iinc 2 1, 3) := by decide +kernel
theorem dX12_measure_138 : decode cX12_measure 138 = .ok (.goto (-36), 3) := by decide +kernel
theorem dX12_measure_141 : decode cX12_measure 141 = .ok (.iconst 0, 1) := by decide +kernel
theorem dX12_measure_142 : decode cX12_measure 142 = .ok (.istore_n 2, 1) := by decide +kernel
theorem dX12_measure_143 : decode cX12_measure 143 = .ok (.iload_n 2, 1) := by decide +kernel
theorem dX12_measure_144 : decode cX12_measure 144 = .ok (.bipush 8, 2) := by decide +kernel
theorem dX12_measure_146 : decode cX12_measure 146 = .ok (.if_icmp .ge 82, 3) := by decide +kernel
theorem dX12_measure_149 : decode cX12_measure 149 = .ok (.iconst 0, 1) := by decide +kernel
theorem dX12_measure_150 : decode cX12_measure 150 = .ok (.istore_n 3, 1) := by decide +kernel
theorem dX12_measure_151 : decode cX12_measure 151 = .ok (.iload_n 3, 1) := by decide +kernel
theorem dX12_measure_152 : decode cX12_measure 152 = .ok (.bipush 64, 2) := by decide +kernel
theorem dX12_measure_154 : decode cX12_measure 154 = .ok (.if_icmp .ge 68, 3) := by decide +kernel
theorem dX12_measure_157 : decode cX12_measure 157 = .ok (.aload_n 0, 1) := by decide +kernel
theorem dX12_measure_158 : decode cX12_measure 158 = .ok (.getfield 53, 3) := by decide +kernel
theorem dX12_measure_161 : decode cX12_measure 161 = .ok (.bipush 8, 2) := by decide +kernel
theorem dX12_measure_163 : decode cX12_measure 163 = .ok (.iload_n 3, 1) := by decide +kernel
theorem dX12_measure_164 : decode cX12_measure 164 = .ok (.bipush 8, 2) := by decide +kernel
theorem dX12_measure_166 : decode cX12_measure 166 = .ok (.idiv, 1) := by decide +kernel
theorem dX12_measure_167 : decode cX12_measure 167 = .ok (.imul, 1) := by decide +kernel
theorem dX12_measure_168 : decode cX12_measure 168 = .ok (.iload_n 2, 1) := by decide +kernel
theorem dX12_measure_169 : decode cX12_measure 169 = .ok (.iadd, 1) := by decide +kernel
theorem dX12_measure_170 : decode cX12_measure 170 = .ok (.iaload, 1) := by decide +kernel
theorem dX12_measure_171 : decode cX12_measure 171 = .ok (.aload_n 0, 1) := by decide +kernel
theorem dX12_measure_172 : decode cX12_measure 172 = .ok (.getfield 53, 3) := by decide +kernel
theorem dX12_measure_175 : decode cX12_measure 175 = .ok (.bipush 8, 2) := by decide +kernel
theorem dX12_measure_177 : decode cX12_measure 177 = .ok (.iload_n 2, 1) := by decide +kernel
theorem dX12_measure_178 : decode cX12_measure 178 = .ok (.imul, 1) := by decide +kernel
theorem dX12_measure_179 : decode cX12_measure 179 = .ok (.iload_n 3, 1) := by decide +kernel
theorem dX12_measure_180 : decode cX12_measure 180 = .ok (.bipush 8, 2) := by decide +kernel
theorem dX12_measure_182 : decode cX12_measure 182 = .ok (.irem, 1) := by decide +kernel
theorem dX12_measure_183 : decode cX12_measure 183 = .ok (.iadd, 1) := by decide +kernel
theorem dX12_measure_184 : decode cX12_measure 184 = .ok (.iaload, 1) := by decide +kernel
theorem dX12_measure_185 : decode cX12_measure 185 = .ok (.iadd, 1) := by decide +kernel
theorem dX12_measure_186 : decode cX12_measure 186 = .ok (.istore 4, 2) := by decide +kernel
theorem dX12_measure_188 : decode cX12_measure 188 = .ok (.aload_n 0, 1) := by decide +kernel
theorem dX12_measure_189 : decode cX12_measure 189 = .ok (.getfield 53, 3) := by decide +kernel
theorem dX12_measure_192 : decode cX12_measure 192 = .ok (.iload_n 3, 1) := by decide +kernel
theorem dX12_measure_193 : decode cX12_measure 193 = .ok (.iload 4, 2) := by decide +kernel
theorem dX12_measure_195 : decode cX12_measure 195 = .ok (.aload_n 0, 1) := by decide +kernel
theorem dX12_measure_196 : decode cX12_measure 196 = .ok (.getfield 53, 3) := by decide +kernel
theorem dX12_measure_199 : decode cX12_measure 199 = .ok (.iload_n 3, 1) := by decide +kernel
theorem dX12_measure_200 : decode cX12_measure 200 = .ok (.iaload, 1) := by decide +kernel
theorem dX12_measure_201 : decode cX12_measure 201 = .ok (.if_icmp .ge 8, 3) := by decide +kernel
theorem dX12_measure_204 : decode cX12_measure 204 = .ok (.iload 4, 2) := by decide +kernel
theorem dX12_measure_206 : decode cX12_measure 206 = .ok (.goto 9, 3) := by decide +kernel
theorem dX12_measure_209 : decode cX12_measure 209 = .ok (.aload_n 0, 1) := by decide +kernel
theorem dX12_measure_210 : decode cX12_measure 210 = .ok (.getfield 53, 3) := by decide +kernel
theorem dX12_measure_213 : decode cX12_measure 213 = .ok (.iload_n 3, 1) := by decide +kernel
theorem dX12_measure_214 : decode cX12_measure 214 = .ok (.iaload, 1) := by decide +kernel
theorem dX12_measure_215 : decode cX12_measure 215 = .ok (.iastore, 1) := by decide +kernel
theorem dX12_measure_216 : decode cX12_measure 216 = .ok (.iinc 3 1, 3) := by decide +kernel
theorem dX12_measure_219 : decode cX12_measure 219 = .ok (.goto (-68), 3) := by decide +kernel
theorem dX12_measure_222 : decode cX12_measure 222 = .ok (.iinc 2 1, 3) := by decide +kernel
theorem dX12_measure_225 : decode cX12_measure 225 = .ok (.goto (-82), 3) := by decide +kernel
theorem dX12_measure_228 : decode cX12_measure 228 = .ok (.return_, 1) := by decide +kernel
theorem dX12_far_0 : decode cX12_far 0 = .ok (.aload_n 0, 1) := by decide +kernel
theorem dX12_far_1 : decode cX12_far 1 = .ok (.iload_n 1, 1) := by decide +kernel
theorem dX12_far_2 : decode cX12_far 2 = .ok (.invokevirtual 145, 3) := by decide +kernel
theorem dX12_far_5 : decode cX12_far 5 = .ok (.ifCond .eq 11, 3) := by decide +kernel
theorem dX12_far_8 : decode cX12_far 8 = .ok (.aload_n 0, 1) := by decide +kernel
theorem dX12_far_9 : decode cX12_far 9 = .ok (.iload_n 2, 1) := by decide +kernel
theorem dX12_far_10 : decode cX12_far 10 = .ok (.invokevirtual 145, 3) := by decide +kernel
theorem dX12_far_13 : decode cX12_far 13 = .ok (.ifCond .ne 5, 3) := by decide +kernel
theorem dX12_far_16 : decode cX12_far 16 = .ok (.iconst (-1), 1) := by decide +kernel
theorem dX12_far_17 : decode cX12_far 17 = .ok (.ireturn, 1) := by decide +kernel
theorem dX12_far_18 : decode cX12_far 18 = .ok (.aload_n 0, 1) := by decide +kernel
theorem dX12_far_19 : decode cX12_far 19 = .ok (.getfield 53, 3) := by decide +kernel
theorem dX12_far_22 : decode cX12_far 22 = .ok (.bipush 8, 2) := by decide +kernel
theorem dX12_far_24 : decode cX12_far 24 = .ok (.iload_n 1, 1) := by decide +kernel
theorem dX12_far_25 : decode cX12_far 25 = .ok (.imul, 1) := by decide +kernel
theorem dX12_far_26 : decode cX12_far 26 = .ok (.iload_n 2, 1) := by decide +kernel
theorem dX12_far_27 : decode cX12_far 27 = .ok (.iadd, 1) := by decide +kernel
theorem dX12_far_28 : decode cX12_far 28 = .ok (.iaload, 1) := by decide +kernel
theorem dX12_far_29 : decode cX12_far 29 = .ok (.sipush 10000, 3) := by decide +kernel
theorem dX12_far_32 : decode cX12_far 32 = .ok (.if_icmp .lt 8, 3) := by decide +kernel
theorem dX12_far_35 : decode cX12_far 35 = .ok (.bipush (-4), 2) := by decide +kernel
theorem dX12_far_37 : decode cX12_far 37 = .ok (.goto 14, 3) := by decide +kernel
theorem dX12_far_40 : decode cX12_far 40 = .ok (.aload_n 0, 1) := by decide +kernel
theorem dX12_far_41 : decode cX12_far 41 = .ok (.getfield 53, 3) := by decide +kernel
theorem dX12_far_44 : decode cX12_far 44 = .ok (.bipush 8, 2) := by decide +kernel
theorem dX12_far_46 : decode cX12_far 46 = .ok (.iload_n 1, 1) := by decide +kernel
theorem dX12_far_47 : decode cX12_far 47 = .ok (.imul, 1) := by decide +kernel
theorem dX12_far_48 : decode cX12_far 48 = .ok (.iload_n 2, 1) := by decide +kernel
theorem dX12_far_49 : decode cX12_far 49 = .ok (.iadd, 1) := by decide +kernel
theorem dX12_far_50 : decode cX12_far 50 = .ok (.iaload, 1) := by decide +kernel
theorem dX12_far_51 : decode cX12_far 51 = .ok (.ireturn, 1) := by decide +kernel
theorem dX12_street_0 : decode cX12_street 0 = .ok (.aload_n 0, 1) := by decide +kernel
theorem dX12_street_1 : decode cX12_street 1 = .ok (.iload_n 1, 1) := by decide +kernel
theorem dX12_street_2 : decode cX12_street 2 = .ok (.invokevirtual 145, 3) := by decide +kernel
theorem dX12_street_5 : decode cX12_street 5 = .ok (.ifCond .eq 11, 3) := by decide +kernel
theorem dX12_street_8 : decode cX12_street 8 = .ok (.aload_n 0, 1) := by decide +kernel
theorem dX12_street_9 : decode cX12_street 9 = .ok (.iload_n 2, 1) := by decide +kernel
theorem dX12_street_10 : decode cX12_street 10 = .ok (.invokevirtual 145, 3) := by decide +kernel
theorem dX12_street_13 : decode cX12_street 13 = .ok (.ifCond .ne 5, 3) := by decide +kernel
theorem dX12_street_16 : decode cX12_street 16 = .ok (.iconst (-1), 1) := by decide +kernel
theorem dX12_street_17 : decode cX12_street 17 = .ok (.ireturn, 1) := by decide +kernel
theorem dX12_street_18 : decode cX12_street 18 = .ok (.aload_n 0, 1) := by decide +kernel
theorem dX12_street_19 : decode cX12_street 19 = .ok (.getfield 50, 3) := by decide +kernel
theorem dX12_street_22 : decode cX12_street 22 = .ok (.bipush 8, 2) := by decide +kernel
theorem dX12_street_24 : decode cX12_street 24 = .ok (.iload_n 1, 1) := by decide +kernel
theorem dX12_street_25 : decode cX12_street 25 = .ok (.imul, 1) := by decide +kernel
theorem dX12_street_26 : decode cX12_street 26 = .ok (.iload_n 2, 1) := by decide +kernel
theorem dX12_street_27 : decode cX12_street 27 = .ok (.iadd, 1) := by decide +kernel
theorem dX12_street_28 : decode cX12_street 28 = .ok (.iaload, 1) := by decide +kernel
theorem dX12_street_29 : decode cX12_street 29 = .ok (.sipush 10000, 3) := by decide +kernel
theorem dX12_street_32 : decode cX12_street 32 = .ok (.if_icmp .ne 8, 3) := by decide +kernel
theorem dX12_street_35 : decode cX12_street 35 = .ok (.bipush (-4), 2) := by decide +kernel
theorem dX12_street_37 : decode cX12_street 37 = .ok (.goto 14, 3) := by decide +kernel
theorem dX12_street_40 : decode cX12_street 40 = .ok (.aload_n 0, 1) := by decide +kernel
theorem dX12_street_41 : decode cX12_street 41 = .ok (.getfield 50, 3) := by decide +kernel
theorem dX12_street_44 : decode cX12_street 44 = .ok (.bipush 8, 2) := by decide +kernel
theorem dX12_street_46 : decode cX12_street 46 = .ok (.iload_n 1, 1) := by decide +kernel
theorem dX12_street_47 : decode cX12_street 47 = .ok (.imul, 1) := by decide +kernel
theorem dX12_street_48 : decode cX12_street 48 = .ok (.iload_n 2, 1) := by decide +kernel
theorem dX12_street_49 : decode cX12_street 49 = .ok (.iadd, 1) := by decide +kernel
theorem dX12_street_50 : decode cX12_street 50 = .ok (.iaload, 1) := by decide +kernel
theorem dX12_street_51 : decode cX12_street 51 = .ok (.ireturn, 1) := by decide +kernel
theorem dX12_sign_0 : decode cX12_sign 0 = .ok (.aload_n 0, 1) := by decide +kernel
theorem dX12_sign_1 : decode cX12_sign 1 = .ok (.iload_n 1, 1) := by decide +kernel
theorem dX12_sign_2 : decode cX12_sign 2 = .ok (.invokevirtual 149, 3) := by decide +kernel
theorem dX12_sign_5 : decode cX12_sign 5 = .ok (.ifCond .eq 27, 3) := by decide +kernel
theorem dX12_sign_8 : decode cX12_sign 8 = .ok (.iload_n 2, 1) := by decide +kernel
theorem dX12_sign_9 : decode cX12_sign 9 = .ok (.iconst 0, 1) := by decide +kernel
theorem dX12_sign_10 : decode cX12_sign 10 = .ok (.iconst 2, 1) := by decide +kernel
theorem dX12_sign_11 : decode cX12_sign 11 = .ok (.invokestatic 94, 3) := by decide +kernel
theorem dX12_sign_14 : decode cX12_sign 14 = .ok (.ifCond .eq 18, 3) := by decide +kernel
theorem dX12_sign_17 : decode cX12_sign 17 = .ok (.aload_n 0, 1) := by decide +kernel
theorem dX12_sign_18 : decode cX12_sign 18 = .ok (.getfield 47, 3) := by decide +kernel
theorem dX12_sign_21 : decode cX12_sign 21 = .ok (.iconst 1, 1) := by decide +kernel
theorem dX12_sign_22 : decode cX12_sign 22 = .ok (.iconst 3, 1) := by decide +kernel
theorem dX12_sign_23 : decode cX12_sign 23 = .ok (.iload_n 1, 1) := by decide +kernel
theorem dX12_sign_24 : decode cX12_sign 24 = .ok (.imul, 1) := by decide +kernel
theorem dX12_sign_25 : decode cX12_sign 25 = .ok (.iadd, 1) := by decide +kernel
theorem dX12_sign_26 : decode cX12_sign 26 = .ok (.iload_n 2, 1) := by decide +kernel
theorem dX12_sign_27 : decode cX12_sign 27 = .ok (.iadd, 1) := by decide +kernel
theorem dX12_sign_28 : decode cX12_sign 28 = .ok (.iaload, 1) := by decide +kernel
theorem dX12_sign_29 : decode cX12_sign 29 = .ok (.goto 4, 3) := by decide +kernel
theorem dX12_sign_32 : decode cX12_sign 32 = .ok (.iconst (-1), 1) := by decide +kernel
theorem dX12_sign_33 : decode cX12_sign 33 = .ok (.ireturn, 1) := by decide +kernel
theorem dX12_walker_0 : decode cX12_walker 0 = .ok (.aload_n 0, 1) := by decide +kernel
theorem dX12_walker_1 : decode cX12_walker 1 = .ok (.iload_n 1, 1) := by decide +kernel
theorem dX12_walker_2 : decode cX12_walker 2 = .ok (.invokevirtual 152, 3) := by decide +kernel
theorem dX12_walker_5 : decode cX12_walker 5 = .ok (.ifCond .eq 12, 3) := by decide +kernel
theorem dX12_walker_8 : decode cX12_walker 8 = .ok (.iload_n 2, 1) := by decide +kernel
theorem dX12_walker_9 : decode cX12_walker 9 = .ok (.iconst 0, 1) := by decide +kernel
theorem dX12_walker_10 : decode cX12_walker 10 = .ok (.iconst 3, 1) := by decide +kernel
theorem dX12_walker_11 : decode cX12_walker 11 = .ok (.invokestatic 94, 3) := by decide +kernel
theorem dX12_walker_14 : decode cX12_walker 14 = .ok (.ifCond .ne 5, 3) := by decide +kernel
theorem dX12_walker_17 : decode cX12_walker 17 = .ok (.iconst (-1), 1) := by decide +kernel
theorem dX12_walker_18 : decode cX12_walker 18 = .ok (.ireturn, 1) := by decide +kernel
theorem dX12_walker_19 : decode cX12_walker 19 = .ok (.iload_n 2, 1) := by decide +kernel
theorem dX12_walker_20 : decode cX12_walker 20 = .ok (.ifCond .ne 12, 3) := by decide +kernel
theorem dX12_walker_23 : decode cX12_walker 23 = .ok (.aload_n 0, 1) := by decide +kernel
theorem dX12_walker_24 : decode cX12_walker 24 = .ok (.getfield 32, 3) := by decide +kernel
theorem dX12_walker_27 : decode cX12_walker 27 = .ok (.iload_n 1, 1) := by decide +kernel
theorem dX12_walker_28 : decode cX12_walker 28 = .ok (.iaload, 1) := by decide +kernel
theorem dX12_walker_29 : decode cX12_walker 29 = .ok (.goto 40, 3) := by decide +kernel
theorem dX12_walker_32 : decode cX12_walker 32 = .ok (.iload_n 2, 1) := by decide +kernel
theorem dX12_walker_33 : decode cX12_walker 33 = .ok (.iconst 1, 1) := by decide +kernel
theorem dX12_walker_34 : decode cX12_walker 34 = .ok (.if_icmp .ne 12, 3) := by decide +kernel
theorem dX12_walker_37 : decode cX12_walker 37 = .ok (.aload_n 0, 1) := by decide +kernel
theorem dX12_walker_38 : decode cX12_walker 38 = .ok (.getfield 35, 3) := by decide +kernel
theorem dX12_walker_41 : decode cX12_walker 41 = .ok (.iload_n 1, 1) := by decide +kernel
theorem dX12_walker_42 : decode cX12_walker 42 = .ok (.iaload, 1) := by decide +kernel
theorem dX12_walker_43 : decode cX12_walker 43 = .ok (.goto 26, 3) := by decide +kernel
theorem dX12_walker_46 : decode cX12_walker 46 = .ok (.iload_n 2, 1) := by decide +kernel
theorem dX12_walker_47 : decode cX12_walker 47 = .ok (.iconst 2, 1) := by decide +kernel
theorem dX12_walker_48 : decode cX12_walker 48 = .ok (.if_icmp .ne 12, 3) := by decide +kernel
theorem dX12_walker_51 : decode cX12_walker 51 = .ok (.aload_n 0, 1) := by decide +kernel
theorem dX12_walker_52 : decode cX12_walker 52 = .ok (.getfield 38, 3) := by decide +kernel
theorem dX12_walker_55 : decode cX12_walker 55 = .ok (.iload_n 1, 1) := by decide +kernel
theorem dX12_walker_56 : decode cX12_walker 56 = .ok (.iaload, 1) := by decide +kernel
theorem dX12_walker_57 : decode cX12_walker 57 = .ok (.goto 12, 3) := by decide +kernel
theorem dX12_walker_60 : decode cX12_walker 60 = .ok (.aload_n 0, 1) := by decide +kernel
theorem dX12_walker_61 : decode cX12_walker 61 = .ok (.getfield 47, 3) := by decide +kernel
theorem dX12_walker_64 : decode cX12_walker 64 = .ok (.bipush 28, 2) := by decide +kernel
theorem dX12_walker_66 : decode cX12_walker 66 = .ok (.iload_n 1, 1) := by decide +kernel
theorem dX12_walker_67 : decode cX12_walker 67 = .ok (.iadd, 1) := by decide +kernel
theorem dX12_walker_68 : decode cX12_walker 68 = .ok (.iaload, 1) := by decide +kernel
theorem dX12_walker_69 : decode cX12_walker 69 = .ok (.ireturn, 1) := by decide +kernel
theorem dX12_isOnWay_0 : decode cX12_isOnWay 0 = .ok (.aload_n 0, 1) := by decide +kernel
theorem dX12_isOnWay_1 : decode cX12_isOnWay 1 = .ok (.getfield 53, 3) := by decide +kernel
theorem dX12_isOnWay_4 : decode cX12_isOnWay 4 = .ok (.bipush 8, 2) := by decide +kernel
theorem dX12_isOnWay_6 : decode cX12_isOnWay 6 = .ok (.iload_n 1, 1) := by decide +kernel
theorem dX12_isOnWay_7 : decode cX12_isOnWay 7 = .ok (.imul, 1) := by decide +kernel
theorem dX12_isOnWay_8 : decode cX12_isOnWay 8 = .ok (.iload_n 3, 1) := by decide +kernel
theorem dX12_isOnWay_9 : decode cX12_isOnWay 9 = .ok (.iadd, 1) := by decide +kernel
theorem dX12_isOnWay_10 : decode cX12_isOnWay 10 = .ok (.iaload, 1) := by decide +kernel
theorem dX12_isOnWay_11 : decode cX12_isOnWay 11 = .ok (.sipush 10000, 3) := by decide +kernel
theorem dX12_isOnWay_14 : decode cX12_isOnWay 14 = .ok (.if_icmp .ge 61, 3) := by decide +kernel
theorem dX12_isOnWay_17 : decode cX12_isOnWay 17 = .ok (.aload_n 0, 1) := by decide +kernel
theorem dX12_isOnWay_18 : decode cX12_isOnWay 18 = .ok (.getfield 50, 3) := by decide +kernel
theorem dX12_isOnWay_21 : decode cX12_isOnWay 21 = .ok (.bipush 8, 2) := by decide +kernel
theorem dX12_isOnWay_23 : decode cX12_isOnWay 23 = .ok (.iload_n 1, 1) := by decide +kernel
theorem dX12_isOnWay_24 : decode cX12_isOnWay 24 = .ok (.imul, 1) := by decide +kernel
theorem dX12_isOnWay_25 : decode cX12_isOnWay 25 = .ok (.iload_n 2, 1) := by decide +kernel
theorem dX12_isOnWay_26 : decode cX12_isOnWay 26 = .ok (.iadd, 1) := by decide +kernel
theorem dX12_isOnWay_27 : decode cX12_isOnWay 27 = .ok (.iaload, 1) := by decide +kernel
theorem dX12_isOnWay_28 : decode cX12_isOnWay 28 = .ok (.sipush 10000, 3) := by decide +kernel
theorem dX12_isOnWay_31 : decode cX12_isOnWay 31 = .ok (.if_icmp .ge 44, 3) := by decide +kernel
theorem dX12_isOnWay_34 : decode cX12_isOnWay 34 = .ok (.aload_n 0, 1) := by decide +kernel
theorem dX12_isOnWay_35 : decode cX12_isOnWay 35 = .ok (.getfield 50, 3) := by decide +kernel
theorem dX12_isOnWay_38 : decode cX12_isOnWay 38 = .ok (.bipush 8, 2) := by decide +kernel
theorem dX12_isOnWay_40 : decode cX12_isOnWay 40 = .ok (.iload_n 1, 1) := by decide +kernel
theorem dX12_isOnWay_41 : decode cX12_isOnWay 41 = .ok (.imul, 1) := by decide +kernel
theorem dX12_isOnWay_42 : decode cX12_isOnWay 42 = .ok (.iload_n 2, 1) := by decide +kernel
theorem dX12_isOnWay_43 : decode cX12_isOnWay 43 = .ok (.iadd, 1) := by decide +kernel
theorem dX12_isOnWay_44 : decode cX12_isOnWay 44 = .ok (.iaload, 1) := by decide +kernel
theorem dX12_isOnWay_45 : decode cX12_isOnWay 45 = .ok (.aload_n 0, 1) := by decide +kernel
theorem dX12_isOnWay_46 : decode cX12_isOnWay 46 = .ok (.getfield 53, 3) := by decide +kernel
theorem dX12_isOnWay_49 : decode cX12_isOnWay 49 = .ok (.bipush 8, 2) := by decide +kernel
theorem dX12_isOnWay_51 : decode cX12_isOnWay 51 = .ok (.iload_n 2, 1) := by decide +kernel
theorem dX12_isOnWay_52 : decode cX12_isOnWay 52 = .ok (.imul, 1) := by decide +kernel
theorem dX12_isOnWay_53 : decode cX12_isOnWay 53 = .ok (.iload_n 3, 1) := by decide +kernel
theorem dX12_isOnWay_54 : decode cX12_isOnWay 54 = .ok (.iadd, 1) := by decide +kernel
theorem dX12_isOnWay_55 : decode cX12_isOnWay 55 = .ok (.iaload, 1) := by decide +kernel
theorem dX12_isOnWay_56 : decode cX12_isOnWay 56 = .ok (.iadd, 1) := by decide +kernel
theorem dX12_isOnWay_57 : decode cX12_isOnWay 57 = .ok (.aload_n 0, 1) := by decide +kernel
theorem dX12_isOnWay_58 : decode cX12_isOnWay 58 = .ok (.getfield 53, 3) := by decide +kernel
theorem dX12_isOnWay_61 : decode cX12_isOnWay 61 = .ok (.bipush 8, 2) := by decide +kernel
theorem dX12_isOnWay_63 : decode cX12_isOnWay 63 = .ok (.iload_n 1, 1) := by decide +kernel
theorem dX12_isOnWay_64 : decode cX12_isOnWay 64 = .ok (.imul, 1) := by decide +kernel
theorem dX12_isOnWay_65 : decode cX12_isOnWay 65 = .ok (.iload_n 3, 1) := by decide +kernel
theorem dX12_isOnWay_66 : decode cX12_isOnWay 66 = .ok (.iadd, 1) := by decide +kernel
theorem dX12_isOnWay_67 : decode cX12_isOnWay 67 = .ok (.iaload, 1) := by decide +kernel
theorem dX12_isOnWay_68 : decode cX12_isOnWay 68 = .ok (.if_icmp .ne 7, 3) := by decide +kernel
theorem dX12_isOnWay_71 : decode cX12_isOnWay 71 = .ok (.iconst 1, 1) := by decide +kernel
theorem dX12_isOnWay_72 : decode cX12_isOnWay 72 = .ok (.goto 4, 3) := by decide +kernel
theorem dX12_isOnWay_75 : decode cX12_isOnWay 75 = .ok (.iconst 0, 1) := by decide +kernel
theorem dX12_isOnWay_76 : decode cX12_isOnWay 76 = .ok (.ireturn, 1) := by decide +kernel
theorem dX12_nativeStep_0 : decode cX12_nativeStep 0 = .ok (.iconst 0, 1) := by decide +kernel
theorem dX12_nativeStep_1 : decode cX12_nativeStep 1 = .ok (.istore_n 3, 1) := by decide +kernel
theorem dX12_nativeStep_2 : decode cX12_nativeStep 2 = .ok (.iload_n 3, 1) := by decide +kernel
theorem dX12_nativeStep_3 : decode cX12_nativeStep 3 = .ok (.aload_n 0, 1) := by decide +kernel
theorem dX12_nativeStep_4 : decode cX12_nativeStep 4 = .ok (.getfield 13, 3) := by decide +kernel
theorem dX12_nativeStep_7 : decode cX12_nativeStep 7 = .ok (.iconst 0, 1) := by decide +kernel
theorem dX12_nativeStep_8 : decode cX12_nativeStep 8 = .ok (.iaload, 1) := by decide +kernel
theorem dX12_nativeStep_9 : decode cX12_nativeStep 9 = .ok (.if_icmp .ge 21, 3) := by decide +kernel
theorem dX12_nativeStep_12 : decode cX12_nativeStep 12 = .ok (.aload_n 0, 1) := by decide +kernel
theorem dX12_nativeStep_13 : decode cX12_nativeStep 13 = .ok (.iload_n 1, 1) := by decide +kernel
theorem dX12_nativeStep_14 : decode cX12_nativeStep 14 = .ok (.iload_n 3, 1) := by decide +kernel
theorem dX12_nativeStep_15 : decode cX12_nativeStep 15 = .ok (.iload_n 2, 1) := by decide +kernel
theorem dX12_nativeStep_16 : decode cX12_nativeStep 16 = .ok (.invokevirtual 155, 3) := by decide +kernel
theorem dX12_nativeStep_19 : decode cX12_nativeStep 19 = .ok (.ifCond .eq 5, 3) := by decide +kernel
theorem dX12_nativeStep_22 : decode cX12_nativeStep 22 = .ok (.iload_n 3, 1) := by decide +kernel
theorem dX12_nativeStep_23 : decode cX12_nativeStep 23 = .ok (.ireturn, 1) := by decide +kernel
theorem dX12_nativeStep_24 : decode cX12_nativeStep 24 = .ok (.iinc 3 1, 3) := by decide +kernel
theorem dX12_nativeStep_27 : decode cX12_nativeStep 27 = .ok (.goto (-25), 3) := by decide +kernel
theorem dX12_nativeStep_30 : decode cX12_nativeStep 30 = .ok (.bipush (-4), 2) := by decide +kernel
theorem dX12_nativeStep_32 : decode cX12_nativeStep 32 = .ok (.ireturn, 1) := by decide +kernel
theorem dX12_onFrom_0 : decode cX12_onFrom 0 = .ok (.bipush (-4), 2) := by decide +kernel
theorem dX12_onFrom_2 : decode cX12_onFrom 2 = .ok (.istore 4, 2) := by decide +kernel
theorem dX12_onFrom_4 : decode cX12_onFrom 4 = .ok (.iconst 0, 1) := by decide +kernel
theorem dX12_onFrom_5 : decode cX12_onFrom 5 = .ok (.istore 5, 2) := by decide +kernel
theorem dX12_onFrom_7 : decode cX12_onFrom 7 = .ok (.iload 5, 2) := by decide +kernel
theorem dX12_onFrom_9 : decode cX12_onFrom 9 = .ok (.aload_n 0, 1) := by decide +kernel
theorem dX12_onFrom_10 : decode cX12_onFrom 10 = .ok (.getfield 13, 3) := by decide +kernel
theorem dX12_onFrom_13 : decode cX12_onFrom 13 = .ok (.iconst 0, 1) := by decide +kernel
theorem dX12_onFrom_14 : decode cX12_onFrom 14 = .ok (.iaload, 1) := by decide +kernel
theorem dX12_onFrom_15 : decode cX12_onFrom 15 = .ok (.if_icmp .ge 64, 3) := by decide +kernel
theorem dX12_onFrom_18 : decode cX12_onFrom 18 = .ok (.iload_n 3, 1) := by decide +kernel
theorem dX12_onFrom_19 : decode cX12_onFrom 19 = .ok (.ifCond .eq 8, 3) := by decide +kernel
theorem dX12_onFrom_22 : decode cX12_onFrom 22 = .ok (.iload 5, 2) := by decide +kernel
theorem dX12_onFrom_24 : decode cX12_onFrom 24 = .ok (.goto 14, 3) := by decide +kernel
theorem dX12_onFrom_27 : decode cX12_onFrom 27 = .ok (.aload_n 0, 1) := by decide +kernel
theorem dX12_onFrom_28 : decode cX12_onFrom 28 = .ok (.getfield 13, 3) := by decide +kernel
theorem dX12_onFrom_31 : decode cX12_onFrom 31 = .ok (.iconst 0, 1) := by decide +kernel
theorem dX12_onFrom_32 : decode cX12_onFrom 32 = .ok (.iaload, 1) := by decide +kernel
theorem dX12_onFrom_33 : decode cX12_onFrom 33 = .ok (.iconst 1, 1) := by decide +kernel
theorem dX12_onFrom_34 : decode cX12_onFrom 34 = .ok (.isub, 1) := by decide +kernel
theorem dX12_onFrom_35 : decode cX12_onFrom 35 = .ok (.iload 5, 2) := by decide +kernel
theorem dX12_onFrom_37 : decode cX12_onFrom 37 = .ok (.isub, 1) := by decide +kernel
theorem dX12_onFrom_38 : decode cX12_onFrom 38 = .ok (.istore 6, 2) := by decide +kernel
theorem dX12_onFrom_40 : decode cX12_onFrom 40 = .ok (.iload 6, 2) := by decide +kernel
theorem dX12_onFrom_42 : decode cX12_onFrom 42 = .ok (.iload_n 2, 1) := by decide +kernel
theorem dX12_onFrom_43 : decode cX12_onFrom 43 = .ok (.if_icmp .eq 26, 3) := by decide +kernel
theorem dX12_onFrom_46 : decode cX12_onFrom 46 = .ok (.aload_n 0, 1) := by decide +kernel
theorem dX12_onFrom_47 : decode cX12_onFrom 47 = .ok (.getfield 50, 3) := by decide +kernel
theorem dX12_onFrom_50 : decode cX12_onFrom 50 = .ok (.bipush 8, 2) := by decide +kernel
theorem dX12_onFrom_52 : decode cX12_onFrom 52 = .ok (.iload_n 1, 1) := by decide +kernel
theorem dX12_onFrom_53 : decode cX12_onFrom 53 = .ok (.imul, 1) := by decide +kernel
theorem dX12_onFrom_54 : decode cX12_onFrom 54 = .ok (.iload 6, 2) := by decide +kernel
theorem dX12_onFrom_56 : decode cX12_onFrom 56 = .ok (.iadd, 1) := by decide +kernel
theorem dX12_onFrom_57 : decode cX12_onFrom 57 = .ok (.iaload, 1) := by decide +kernel
theorem dX12_onFrom_58 : decode cX12_onFrom 58 = .ok (.sipush 10000, 3) := by decide +kernel
theorem dX12_onFrom_61 : decode cX12_onFrom 61 = .ok (.if_icmp .ge 8, 3) := by decide +kernel
theorem dX12_onFrom_64 : decode cX12_onFrom 64 = .ok (.iload 6, 2) := by decide +kernel
theorem dX12_onFrom_66 : decode cX12_onFrom 66 = .ok (.goto 5, 3) := by decide +kernel
theorem dX12_onFrom_69 : decode cX12_onFrom 69 = .ok (.iload 4, 2) := by decide +kernel
theorem dX12_onFrom_71 : decode cX12_onFrom 71 = .ok (.istore 4, 2) := by decide +kernel
theorem dX12_onFrom_73 : decode cX12_onFrom 73 = .ok (.iinc 5 1, 3) := by decide +kernel
theorem dX12_onFrom_76 : decode cX12_onFrom 76 = .ok (.goto (-69), 3) := by decide +kernel
theorem dX12_onFrom_79 : decode cX12_onFrom 79 = .ok (.iload 4, 2) := by decide +kernel
theorem dX12_onFrom_81 : decode cX12_onFrom 81 = .ok (.bipush (-4), 2) := by decide +kernel
theorem dX12_onFrom_83 : decode cX12_onFrom 83 = .ok (.if_icmp .ne 37, 3) := by decide +kernel
theorem dX12_onFrom_86 : decode cX12_onFrom 86 = .ok (.iload_n 2, 1) := by decide +kernel
theorem dX12_onFrom_87 : decode cX12_onFrom 87 = .ok (.iconst (-1), 1) := by decide +kernel
theorem dX12_onFrom_88 : decode cX12_onFrom 88 = .ok (.if_icmp .eq 32, 3) := by decide +kernel
theorem dX12_onFrom_91 : decode cX12_onFrom 91 = .ok (.aload_n 0, 1) := by decide +kernel
theorem dX12_onFrom_92 : decode cX12_onFrom 92 = .ok (.getfield 50, 3) := by decide +kernel
theorem dX12_onFrom_95 : decode cX12_onFrom 95 = .ok (.bipush 8, 2) := by decide +kernel
theorem dX12_onFrom_97 : decode cX12_onFrom 97 = .ok (.iload_n 1, 1) := by decide +kernel
theorem dX12_onFrom_98 : decode cX12_onFrom 98 = .ok (.imul, 1) := by decide +kernel
theorem dX12_onFrom_99 : decode cX12_onFrom 99 = .ok (.iload_n 2, 1) := by decide +kernel
theorem dX12_onFrom_100 : decode cX12_onFrom 100 = .ok (.ifCond .ge 7, 3) := by decide +kernel
theorem dX12_onFrom_103 : decode cX12_onFrom 103 = .ok (.iconst 0, 1) := by decide +kernel
theorem dX12_onFrom_104 : decode cX12_onFrom 104 = .ok (.goto 4, 3) := by decide +kernel
theorem dX12_onFrom_107 : decode cX12_onFrom 107 = .ok (.iload_n 2, 1) := by decide +kernel
theorem dX12_onFrom_108 : decode cX12_onFrom 108 = .ok (.iadd, 1) := by decide +kernel
theorem dX12_onFrom_109 : decode cX12_onFrom 109 = .ok (.iaload, 1) := by decide +kernel
theorem dX12_onFrom_110 : decode cX12_onFrom 110 = .ok (.sipush 10000, 3) := by decide +kernel
theorem dX12_onFrom_113 : decode cX12_onFrom 113 = .ok (.if_icmp .ge 7, 3) := by decide +kernel
theorem dX12_onFrom_116 : decode cX12_onFrom 116 = .ok (.iload_n 2, 1) := by decide +kernel
theorem dX12_onFrom_117 : decode cX12_onFrom 117 = .ok (.goto 5, 3) := by decide +kernel
theorem dX12_onFrom_120 : decode cX12_onFrom 120 = .ok (.iload 4, 2) := by decide +kernel
theorem dX12_onFrom_122 : decode cX12_onFrom 122 = .ok (.ireturn, 1) := by decide +kernel
theorem dX12_strangerStep_0 : decode cX12_strangerStep 0 = .ok (.bipush (-4), 2) := by decide +kernel
theorem dX12_strangerStep_2 : decode cX12_strangerStep 2 = .ok (.istore 5, 2) := by decide +kernel
theorem dX12_strangerStep_4 : decode cX12_strangerStep 4 = .ok (.iconst 0, 1) := by decide +kernel
theorem dX12_strangerStep_5 : decode cX12_strangerStep 5 = .ok (.istore 6, 2) := by decide +kernel
theorem dX12_strangerStep_7 : decode cX12_strangerStep 7 = .ok (.iload 6, 2) := by decide +kernel
theorem dX12_strangerStep_9 : decode cX12_strangerStep 9 = .ok (.aload_n 0, 1) := by decide +kernel
theorem dX12_strangerStep_10 : decode cX12_strangerStep 10 = .ok (.getfield 47, 3) := by decide +kernel
theorem dX12_strangerStep_13 : decode cX12_strangerStep 13 = .ok (.iload_n 1, 1) := by decide +kernel
theorem dX12_strangerStep_14 : decode cX12_strangerStep 14 = .ok (.iconst 0, 1) := by decide +kernel
theorem dX12_strangerStep_15 : decode cX12_strangerStep 15 = .ok (.iadd, 1) := by decide +kernel
theorem dX12_strangerStep_16 : decode cX12_strangerStep 16 = .ok (.iaload, 1) := by decide +kernel
theorem dX12_strangerStep_17 : decode cX12_strangerStep 17 = .ok (.if_icmp .ge 60, 3) := by decide +kernel
theorem dX12_strangerStep_20 : decode cX12_strangerStep 20 = .ok (.iload_n 1, 1) := by decide +kernel
theorem dX12_strangerStep_21 : decode cX12_strangerStep 21 = .ok (.iconst 1, 1) := by decide +kernel
theorem dX12_strangerStep_22 : decode cX12_strangerStep 22 = .ok (.iadd, 1) := by decide +kernel
theorem dX12_strangerStep_23 : decode cX12_strangerStep 23 = .ok (.iconst 3, 1) := by decide +kernel
theorem dX12_strangerStep_24 : decode cX12_strangerStep 24 = .ok (.iload 6, 2) := by decide +kernel
theorem dX12_strangerStep_26 : decode cX12_strangerStep 26 = .ok (.imul, 1) := by decide +kernel
theorem dX12_strangerStep_27 : decode cX12_strangerStep 27 = .ok (.iadd, 1) := by decide +kernel
theorem dX12_strangerStep_28 : decode cX12_strangerStep 28 = .ok (.istore 7, 2) := by decide +kernel
theorem dX12_strangerStep_30 : decode cX12_strangerStep 30 = .ok (.aload_n 0, 1) := by decide +kernel
theorem dX12_strangerStep_31 : decode cX12_strangerStep 31 = .ok (.getfield 47, 3) := by decide +kernel
theorem dX12_strangerStep_34 : decode cX12_strangerStep 34 = .ok (.iload 7, 2) := by decide +kernel
theorem dX12_strangerStep_36 : decode cX12_strangerStep 36 = .ok (.iaload, 1) := by decide +kernel
theorem dX12_strangerStep_37 : decode cX12_strangerStep 37 = .ok (.iload_n 2, 1) := by decide +kernel
theorem dX12_strangerStep_38 : decode cX12_strangerStep 38 = .ok (.if_icmp .ne 29, 3) := by decide +kernel
theorem dX12_strangerStep_41 : decode cX12_strangerStep 41 = .ok (.aload_n 0, 1) := by decide +kernel
theorem dX12_strangerStep_42 : decode cX12_strangerStep 42 = .ok (.getfield 47, 3) := by decide +kernel
theorem dX12_strangerStep_45 : decode cX12_strangerStep 45 = .ok (.iload 7, 2) := by decide +kernel
theorem dX12_strangerStep_47 : decode cX12_strangerStep 47 = .ok (.iconst 1, 1) := by decide +kernel
theorem dX12_strangerStep_48 : decode cX12_strangerStep 48 = .ok (.iadd, 1) := by decide +kernel
theorem dX12_strangerStep_49 : decode cX12_strangerStep 49 = .ok (.iaload, 1) := by decide +kernel
theorem dX12_strangerStep_50 : decode cX12_strangerStep 50 = .ok (.iload 4, 2) := by decide +kernel
theorem dX12_strangerStep_52 : decode cX12_strangerStep 52 = .ok (.if_icmp .ne 15, 3) := by decide +kernel
theorem dX12_strangerStep_55 : decode cX12_strangerStep 55 = .ok (.aload_n 0, 1) := by decide +kernel
theorem dX12_strangerStep_56 : decode cX12_strangerStep 56 = .ok (.getfield 47, 3) := by decide +kernel
theorem dX12_strangerStep_59 : decode cX12_strangerStep 59 = .ok (.iload 7, 2) := by decide +kernel
theorem dX12_strangerStep_61 : decode cX12_strangerStep 61 = .ok (.iconst 2, 1) := by decide +kernel
theorem dX12_strangerStep_62 : decode cX12_strangerStep 62 = .ok (.iadd, 1) := by decide +kernel
theorem dX12_strangerStep_63 : decode cX12_strangerStep 63 = .ok (.iaload, 1) := by decide +kernel
theorem dX12_strangerStep_64 : decode cX12_strangerStep 64 = .ok (.goto 5, 3) := by decide +kernel
theorem dX12_strangerStep_67 : decode cX12_strangerStep 67 = .ok (.iload 5, 2) := by decide +kernel
theorem dX12_strangerStep_69 : decode cX12_strangerStep 69 = .ok (.istore 5, 2) := by decide +kernel
theorem dX12_strangerStep_71 : decode cX12_strangerStep 71 = .ok (.iinc 6 1, 3) := by decide +kernel
theorem dX12_strangerStep_74 : decode cX12_strangerStep 74 = .ok (.goto (-67), 3) := by decide +kernel
theorem dX12_strangerStep_77 : decode cX12_strangerStep 77 = .ok (.iload 5, 2) := by decide +kernel
theorem dX12_strangerStep_79 : decode cX12_strangerStep 79 = .ok (.bipush (-4), 2) := by decide +kernel
theorem dX12_strangerStep_81 : decode cX12_strangerStep 81 = .ok (.if_icmp .eq 26, 3) := by decide +kernel
theorem dX12_strangerStep_84 : decode cX12_strangerStep 84 = .ok (.aload_n 0, 1) := by decide +kernel
theorem dX12_strangerStep_85 : decode cX12_strangerStep 85 = .ok (.getfield 50, 3) := by decide +kernel
theorem dX12_strangerStep_88 : decode cX12_strangerStep 88 = .ok (.bipush 8, 2) := by decide +kernel
theorem dX12_strangerStep_90 : decode cX12_strangerStep 90 = .ok (.iload_n 2, 1) := by decide +kernel
theorem dX12_strangerStep_91 : decode cX12_strangerStep 91 = .ok (.imul, 1) := by decide +kernel
theorem dX12_strangerStep_92 : decode cX12_strangerStep 92 = .ok (.iload 5, 2) := by decide +kernel
theorem dX12_strangerStep_94 : decode cX12_strangerStep 94 = .ok (.iadd, 1) := by decide +kernel
theorem dX12_strangerStep_95 : decode cX12_strangerStep 95 = .ok (.iaload, 1) := by decide +kernel
theorem dX12_strangerStep_96 : decode cX12_strangerStep 96 = .ok (.sipush 10000, 3) := by decide +kernel
theorem dX12_strangerStep_99 : decode cX12_strangerStep 99 = .ok (.if_icmp .ge 8, 3) := by decide +kernel
theorem dX12_strangerStep_102 : decode cX12_strangerStep 102 = .ok (.iload 5, 2) := by decide +kernel
theorem dX12_strangerStep_104 : decode cX12_strangerStep 104 = .ok (.goto 10, 3) := by decide +kernel
theorem dX12_strangerStep_107 : decode cX12_strangerStep 107 = .ok (.aload_n 0, 1) := by decide +kernel
theorem dX12_strangerStep_108 : decode cX12_strangerStep 108 = .ok (.iload_n 2, 1) := by decide +kernel
theorem dX12_strangerStep_109 : decode cX12_strangerStep 109 = .ok (.iload_n 3, 1) := by decide +kernel
theorem dX12_strangerStep_110 : decode cX12_strangerStep 110 = .ok (.iconst 0, 1) := by decide +kernel
theorem dX12_strangerStep_111 : decode cX12_strangerStep 111 = .ok (.invokevirtual 158, 3) := by decide +kernel
theorem dX12_strangerStep_114 : decode cX12_strangerStep 114 = .ok (.ireturn, 1) := by decide +kernel
theorem dX12_nextOf_0 : decode cX12_nextOf 0 = .ok (.iload_n 2, 1) := by decide +kernel
theorem dX12_nextOf_1 : decode cX12_nextOf 1 = .ok (.lookupswitch 47 #[(1, 27), (3, 38)], 27) := by decide +kernel
theorem dX12_nextOf_28 : decode cX12_nextOf 28 = .ok (.aload_n 0, 1) := by decide +kernel
theorem dX12_nextOf_29 : decode cX12_nextOf 29 = .ok (.iload_n 1, 1) := by decide +kernel
theorem dX12_nextOf_30 : decode cX12_nextOf 30 = .ok (.iload_n 3, 1) := by decide +kernel
theorem dX12_nextOf_31 : decode cX12_nextOf 31 = .ok (.iload 4, 2) := by decide +kernel
theorem dX12_nextOf_33 : decode cX12_nextOf 33 = .ok (.iload 5, 2) := by decide +kernel
theorem dX12_nextOf_35 : decode cX12_nextOf 35 = .ok (.invokevirtual 162, 3) := by decide +kernel
theorem dX12_nextOf_38 : decode cX12_nextOf 38 = .ok (.ireturn, 1) := by decide +kernel
theorem dX12_nextOf_39 : decode cX12_nextOf 39 = .ok (.aload_n 0, 1) := by decide +kernel
theorem dX12_nextOf_40 : decode cX12_nextOf 40 = .ok (.iload_n 3, 1) := by decide +kernel
theorem dX12_nextOf_41 : decode cX12_nextOf 41 = .ok (.iload 4, 2) := by decide +kernel
theorem dX12_nextOf_43 : decode cX12_nextOf 43 = .ok (.iconst 1, 1) := by decide +kernel
theorem dX12_nextOf_44 : decode cX12_nextOf 44 = .ok (.invokevirtual 158, 3) := by decide +kernel
theorem dX12_nextOf_47 : decode cX12_nextOf 47 = .ok (.ireturn, 1) := by decide +kernel
theorem dX12_nextOf_48 : decode cX12_nextOf 48 = .ok (.aload_n 0, 1) := by decide +kernel
theorem dX12_nextOf_49 : decode cX12_nextOf 49 = .ok (.iload_n 3, 1) := by decide +kernel
theorem dX12_nextOf_50 : decode cX12_nextOf 50 = .ok (.iload 5, 2) := by decide +kernel
theorem dX12_nextOf_52 : decode cX12_nextOf 52 = .ok (.invokevirtual 166, 3) := by decide +kernel
theorem dX12_nextOf_55 : decode cX12_nextOf 55 = .ok (.ireturn, 1) := by decide +kernel
theorem dX12_go_0 : decode cX12_go 0 = .ok (.aload_n 0, 1) := by decide +kernel
theorem dX12_go_1 : decode cX12_go 1 = .ok (.iconst 0, 1) := by decide +kernel
theorem dX12_go_2 : decode cX12_go 2 = .ok (.putfield 170, 3) := by decide +kernel
theorem dX12_go_5 : decode cX12_go 5 = .ok (.aload_n 0, 1) := by decide +kernel
theorem dX12_go_6 : decode cX12_go 6 = .ok (.iconst 0, 1) := by decide +kernel
theorem dX12_go_7 : decode cX12_go 7 = .ok (.putfield 173, 3) := by decide +kernel
theorem dX12_go_10 : decode cX12_go 10 = .ok (.aload_n 0, 1) := by decide +kernel
theorem dX12_go_11 : decode cX12_go 11 = .ok (.iconst 0, 1) := by decide +kernel
theorem dX12_go_12 : decode cX12_go 12 = .ok (.putfield 176, 3) := by decide +kernel
theorem dX12_go_15 : decode cX12_go 15 = .ok (.aload_n 0, 1) := by decide +kernel
theorem dX12_go_16 : decode cX12_go 16 = .ok (.iconst 0, 1) := by decide +kernel
theorem dX12_go_17 : decode cX12_go 17 = .ok (.putfield 179, 3) := by decide +kernel
theorem dX12_go_20 : decode cX12_go 20 = .ok (.aload_n 0, 1) := by decide +kernel
theorem dX12_go_21 : decode cX12_go 21 = .ok (.getfield 56, 3) := by decide +kernel
theorem dX12_go_24 : decode cX12_go 24 = .ok (.iconst 0, 1) := by decide +kernel
theorem dX12_go_25 : decode cX12_go 25 = .ok (.iload_n 3, 1) := by decide +kernel
theorem dX12_go_26 : decode cX12_go 26 = .ok (.iastore, 1) := by decide +kernel
theorem dX12_go_27 : decode cX12_go 27 = .ok (.iconst (-1), 1) := by decide +kernel
theorem dX12_go_28 : decode cX12_go 28 = .ok (.istore 6, 2) := by decide +kernel
theorem dX12_go_30 : decode cX12_go 30 = .ok (.iload_n 3, 1) := by decide +kernel
theorem dX12_go_31 : decode cX12_go 31 = .ok (.istore 7, 2) := by decide +kernel
theorem dX12_go_33 : decode cX12_go 33 = .ok (.iconst 1, 1) := by decide +kernel
theorem dX12_go_34 : decode cX12_go 34 = .ok (.istore 8, 2) := by decide +kernel
theorem dX12_go_36 : decode cX12_go 36 = .ok (.iload 8, 2) := by decide +kernel
theorem dX12_go_38 : decode cX12_go 38 = .ok (.ifCond .eq 208, 3) := by decide +kernel
theorem dX12_go_41 : decode cX12_go 41 = .ok (.iload 7, 2) := by decide +kernel
theorem dX12_go_43 : decode cX12_go 43 = .ok (.iload 4, 2) := by decide +kernel
theorem dX12_go_45 : decode cX12_go 45 = .ok (.if_icmp .eq 201, 3) := by decide +kernel
theorem dX12_go_48 : decode cX12_go 48 = .ok (.aload_n 0, 1) := by decide +kernel
theorem dX12_go_49 : decode cX12_go 49 = .ok (.getfield 170, 3) := by decide +kernel
theorem dX12_go_52 : decode cX12_go 52 = .ok (.bipush 30, 2) := by decide +kernel
theorem dX12_go_54 : decode cX12_go 54 = .ok (.if_icmp .ge 192, 3) := by decide +kernel
theorem dX12_go_57 : decode cX12_go 57 = .ok (.aload_n 0, 1) := by decide +kernel
theorem dX12_go_58 : decode cX12_go 58 = .ok (.iload_n 1, 1) := by decide +kernel
theorem dX12_go_59 : decode cX12_go 59 = .ok (.iload_n 2, 1) := by decide +kernel
theorem dX12_go_60 : decode cX12_go 60 = .ok (.iload 7, 2) := by decide +kernel
theorem dX12_go_62 : decode cX12_go 62 = .ok (.iload 6, 2) := by decide +kernel
theorem dX12_go_64 : decode cX12_go 64 = .ok (.iload 4, 2) := by decide +kernel
theorem dX12_go_66 : decode cX12_go 66 = .ok (.invokevirtual 182, 3) := by decide +kernel
theorem dX12_go_69 : decode cX12_go 69 = .ok (.istore 9, 2) := by decide +kernel
theorem dX12_go_71 : decode cX12_go 71 = .ok (.iload 9, 2) := by decide +kernel
theorem dX12_go_73 : decode cX12_go 73 = .ok (.bipush (-4), 2) := by decide +kernel
theorem dX12_go_75 : decode cX12_go 75 = .ok (.if_icmp .eq 7, 3) := by decide +kernel
theorem dX12_go_78 : decode cX12_go 78 = .ok (.iconst 1, 1) := by decide +kernel
theorem dX12_go_79 : decode cX12_go 79 = .ok (.goto 4, 3) := by decide +kernel
theorem dX12_go_82 : decode cX12_go 82 = .ok (.iconst 0, 1) := by decide +kernel
theorem dX12_go_83 : decode cX12_go 83 = .ok (.istore 8, 2) := by decide +kernel
theorem dX12_go_85 : decode cX12_go 85 = .ok (.iload 8, 2) := by decide +kernel
theorem dX12_go_87 : decode cX12_go 87 = .ok (.ifCond .eq 156, 3) := by decide +kernel
theorem dX12_go_90 : decode cX12_go 90 = .ok (.aload_n 0, 1) := by decide +kernel
theorem dX12_go_91 : decode cX12_go 91 = .ok (.dup, 1) := by decide +kernel
theorem dX12_go_92 : decode cX12_go 92 = .ok (.getfield 173, 3) := by decide +kernel
theorem dX12_go_95 : decode cX12_go 95 = .ok (.aload_n 0, 1) := by decide +kernel
theorem dX12_go_96 : decode cX12_go 96 = .ok (.getfield 50, 3) := by decide +kernel
theorem dX12_go_99 : decode cX12_go 99 = .ok (.bipush 8, 2) := by decide +kernel
theorem dX12_go_101 : decode cX12_go 101 = .ok (.iload 7, 2) := by decide +kernel
theorem dX12_go_103 : decode cX12_go 103 = .ok (.imul, 1) := by decide +kernel
theorem dX12_go_104 : decode cX12_go 104 = .ok (.iload 9, 2) := by decide +kernel
theorem dX12_go_106 : decode cX12_go 106 = .ok (.iadd, 1) := by decide +kernel
theorem dX12_go_107 : decode cX12_go 107 = .ok (.iaload, 1) := by decide +kernel
theorem dX12_go_108 : decode cX12_go 108 = .ok (.iload_n 2, 1) := by decide +kernel
theorem dX12_go_109 : decode cX12_go 109 = .ok (.iconst 2, 1) := by decide +kernel
theorem dX12_go_110 : decode cX12_go 110 = .ok (.if_icmp .ne 7, 3) := by decide +kernel
theorem dX12_go_113 : decode cX12_go 113 = .ok (.iconst 1, 1) := by decide +kernel
theorem dX12_go_114 : decode cX12_go 114 = .ok (.goto 4, 3) := by decide +kernel
theorem dX12_go_117 : decode cX12_go 117 = .ok (.iconst 0, 1) := by decide +kernel
theorem dX12_go_118 : decode cX12_go 118 = .ok (.iadd, 1) := by decide +kernel
theorem dX12_go_119 : decode cX12_go 119 = .ok (.iadd, 1) := by decide +kernel
theorem dX12_go_120 : decode cX12_go 120 = .ok (.putfield 173, 3) := by decide +kernel
theorem dX12_go_123 : decode cX12_go 123 = .ok (.aload_n 0, 1) := by decide +kernel
theorem dX12_go_124 : decode cX12_go 124 = .ok (.dup, 1) := by decide +kernel
theorem dX12_go_125 : decode cX12_go 125 = .ok (.getfield 179, 3) := by decide +kernel
theorem dX12_go_128 : decode cX12_go 128 = .ok (.iload_n 2, 1) := by decide +kernel
theorem dX12_go_129 : decode cX12_go 129 = .ok (.iconst 2, 1) := by decide +kernel
theorem dX12_go_130 : decode cX12_go 130 = .ok (.if_icmp .ne 12, 3) := by decide +kernel
theorem dX12_go_133 : decode cX12_go 133 = .ok (.aload_n 0, 1) := by decide +kernel
theorem dX12_go_134 : decode cX12_go 134 = .ok (.getfield 41, 3) := by decide +kernel
theorem dX12_go_137 : decode cX12_go 137 = .ok (.iconst 2, 1) := by decide +kernel
theorem dX12_go_138 : decode cX12_go 138 = .ok (.iaload, 1) := by decide +kernel
theorem dX12_go_139 : decode cX12_go 139 = .ok (.goto 4, 3) := by decide +kernel
theorem dX12_go_142 : decode cX12_go 142 = .ok (.iconst 0, 1) := by decide +kernel
theorem dX12_go_143 : decode cX12_go 143 = .ok (.iadd, 1) := by decide +kernel
theorem dX12_go_144 : decode cX12_go 144 = .ok (.putfield 179, 3) := by decide +kernel
theorem dX12_go_147 : decode cX12_go 147 = .ok (.aload_n 0, 1) := by decide +kernel
theorem dX12_go_148 : decode cX12_go 148 = .ok (.iload 7, 2) := by decide +kernel
theorem dX12_go_150 : decode cX12_go 150 = .ok (.iload 9, 2) := by decide +kernel
theorem dX12_go_152 : decode cX12_go 152 = .ok (.iload 5, 2) := by decide +kernel
theorem dX12_go_154 : decode cX12_go 154 = .ok (.invokevirtual 155, 3) := by decide +kernel
theorem dX12_go_157 : decode cX12_go 157 = .ok (.ifCond .ne 57, 3) := by decide +kernel
theorem dX12_go_160 : decode cX12_go 160 = .ok (.aload_n 0, 1) := by decide +kernel
theorem dX12_go_161 : decode cX12_go 161 = .ok (.dup, 1) := by decide +kernel
theorem dX12_go_162 : decode cX12_go 162 = .ok (.getfield 176, 3) := by decide +kernel
theorem dX12_go_165 : decode cX12_go 165 = .ok (.iconst 1, 1) := by decide +kernel
theorem dX12_go_166 : decode cX12_go 166 = .ok (.iadd, 1) := by decide +kernel
theorem dX12_go_167 : decode cX12_go 167 = .ok (.putfield 176, 3) := by decide +kernel
theorem dX12_go_170 : decode cX12_go 170 = .ok (.aload_n 0, 1) := by decide +kernel
theorem dX12_go_171 : decode cX12_go 171 = .ok (.getfield 59, 3) := by decide +kernel
theorem dX12_go_174 : decode cX12_go 174 = .ok (.iload 7, 2) := by decide +kernel
theorem dX12_go_176 : decode cX12_go 176 = .ok (.dup2, 1) := by decide +kernel
theorem dX12_go_177 : decode cX12_go 177 = .ok (.iaload, 1) := by decide +kernel
theorem dX12_go_178 : decode cX12_go 178 = .ok (.iconst 1, 1) := by decide +kernel
theorem dX12_go_179 : decode cX12_go 179 = .ok (.iadd, 1) := by decide +kernel
theorem dX12_go_180 : decode cX12_go 180 = .ok (.iastore, 1) := by decide +kernel
theorem dX12_go_181 : decode cX12_go 181 = .ok (.aload_n 0, 1) := by decide +kernel
theorem dX12_go_182 : decode cX12_go 182 = .ok (.dup, 1) := by decide +kernel
theorem dX12_go_183 : decode cX12_go 183 = .ok (.getfield 179, 3) := by decide +kernel
theorem dX12_go_186 : decode cX12_go 186 = .ok (.aload_n 0, 1) := by decide +kernel
theorem dX12_go_187 : decode cX12_go 187 = .ok (.getfield 41, 3) := by decide +kernel
theorem dX12_go_190 : decode cX12_go 190 = .ok (.iconst 0, 1) := by decide +kernel
theorem dX12_go_191 : decode cX12_go 191 = .ok (.iaload, 1) := by decide +kernel
theorem dX12_go_192 : decode cX12_go 192 = .ok (.iload 9, 2) := by decide +kernel
theorem dX12_go_194 : decode cX12_go 194 = .ok (.iload 6, 2) := by decide +kernel
theorem dX12_go_196 : decode cX12_go 196 = .ok (.if_icmp .ne 12, 3) := by decide +kernel
theorem dX12_go_199 : decode cX12_go 199 = .ok (.aload_n 0, 1) := by decide +kernel
theorem dX12_go_200 : decode cX12_go 200 = .ok (.getfield 41, 3) := by decide +kernel
theorem dX12_go_203 : decode cX12_go 203 = .ok (.iconst 1, 1) := by decide +kernel
theorem dX12_go_204 : decode cX12_go 204 = .ok (.iaload, 1) := by decide +kernel
theorem dX12_go_205 : decode cX12_go 205 = .ok (.goto 4, 3) := by decide +kernel
theorem dX12_go_208 : decode cX12_go 208 = .ok (.iconst 0, 1) := by decide +kernel
theorem dX12_go_209 : decode cX12_go 209 = .ok (.iadd, 1) := by decide +kernel
theorem dX12_go_210 : decode cX12_go 210 = .ok (.iadd, 1) := by decide +kernel
theorem dX12_go_211 : decode cX12_go 211 = .ok (.putfield 179, 3) := by decide +kernel
theorem dX12_go_214 : decode cX12_go 214 = .ok (.iload 7, 2) := by decide +kernel
theorem dX12_go_216 : decode cX12_go 216 = .ok (.istore 6, 2) := by decide +kernel
theorem dX12_go_218 : decode cX12_go 218 = .ok (.iload 9, 2) := by decide +kernel
theorem dX12_go_220 : decode cX12_go 220 = .ok (.istore 7, 2) := by decide +kernel
theorem dX12_go_222 : decode cX12_go 222 = .ok (.aload_n 0, 1) := by decide +kernel
theorem dX12_go_223 : decode cX12_go 223 = .ok (.dup, 1) := by decide +kernel
theorem dX12_go_224 : decode cX12_go 224 = .ok (.getfield 170, 3) := by decide +kernel
theorem dX12_go_227 : decode cX12_go 227 = .ok (.iconst 1, 1) := by decide +kernel
theorem dX12_go_228 : decode cX12_go 228 = .ok (.iadd, 1) := by decide +kernel
theorem dX12_go_229 : decode cX12_go 229 = .ok (.putfield 170, 3) := by decide +kernel
theorem dX12_go_232 : decode cX12_go 232 = .ok (.aload_n 0, 1) := by decide +kernel
theorem dX12_go_233 : decode cX12_go 233 = .ok (.getfield 56, 3) := by decide +kernel
theorem dX12_go_236 : decode cX12_go 236 = .ok (.aload_n 0, 1) := by decide +kernel
theorem dX12_go_237 : decode cX12_go 237 = .ok (.getfield 170, 3) := by decide +kernel
theorem dX12_go_240 : decode cX12_go 240 = .ok (.iload 7, 2) := by decide +kernel
theorem dX12_go_242 : decode cX12_go 242 = .ok (.iastore, 1) := by decide +kernel
theorem dX12_go_243 : decode cX12_go 243 = .ok (.goto (-207), 3) := by decide +kernel
theorem dX12_go_246 : decode cX12_go 246 = .ok (.aload_n 0, 1) := by decide +kernel
theorem dX12_go_247 : decode cX12_go 247 = .ok (.getfield 170, 3) := by decide +kernel
theorem dX12_go_250 : decode cX12_go 250 = .ok (.iconst 1, 1) := by decide +kernel
theorem dX12_go_251 : decode cX12_go 251 = .ok (.iadd, 1) := by decide +kernel
theorem dX12_go_252 : decode cX12_go 252 = .ok (.istore 9, 2) := by decide +kernel
theorem dX12_go_254 : decode cX12_go 254 = .ok (.iload 9, 2) := by decide +kernel
theorem dX12_go_256 : decode cX12_go 256 = .ok (.bipush 30, 2) := by decide +kernel
theorem dX12_go_258 : decode cX12_go 258 = .ok (.if_icmp .gt 18, 3) := by decide +kernel
theorem dX12_go_261 : decode cX12_go 261 = .ok (.aload_n 0, 1) := by decide +kernel
theorem dX12_go_262 : decode cX12_go 262 = .ok (.getfield 56, 3) := by decide +kernel
theorem dX12_go_265 : decode cX12_go 265 = .ok (.iload 9, 2) := by decide +kernel
theorem dX12_go_267 : decode cX12_go 267 = .ok (.iload 7, 2) := by decide +kernel
theorem dX12_go_269 : decode cX12_go 269 = .ok (.iastore, 1) := by decide +kernel
theorem dX12_go_270 : decode cX12_go 270 = .ok (.iinc 9 1, 3) := by decide +kernel
theorem dX12_go_273 : decode cX12_go 273 = .ok (.goto (-19), 3) := by decide +kernel
theorem dX12_go_276 : decode cX12_go 276 = .ok (.aload_n 0, 1) := by decide +kernel
theorem dX12_go_277 : decode cX12_go 277 = .ok (.iload 7, 2) := by decide +kernel
theorem dX12_go_279 : decode cX12_go 279 = .ok (.iload 4, 2) := by decide +kernel
theorem dX12_go_281 : decode cX12_go 281 = .ok (.if_icmp .ne 7, 3) := by decide +kernel
theorem dX12_go_284 : decode cX12_go 284 = .ok (.iconst 1, 1) := by decide +kernel
theorem dX12_go_285 : decode cX12_go 285 = .ok (.goto 4, 3) := by decide +kernel
theorem dX12_go_288 : decode cX12_go 288 = .ok (.iconst 0, 1) := by decide +kernel
theorem dX12_go_289 : decode cX12_go 289 = .ok (.putfield 186, 3) := by decide +kernel
theorem dX12_go_292 : decode cX12_go 292 = .ok (.return_, 1) := by decide +kernel
theorem dX12_goAs_0 : decode cX12_goAs 0 = .ok (.aload_n 0, 1) := by decide +kernel
theorem dX12_goAs_1 : decode cX12_goAs 1 = .ok (.iload_n 1, 1) := by decide +kernel
theorem dX12_goAs_2 : decode cX12_goAs 2 = .ok (.aload_n 0, 1) := by decide +kernel
theorem dX12_goAs_3 : decode cX12_goAs 3 = .ok (.getfield 32, 3) := by decide +kernel
theorem dX12_goAs_6 : decode cX12_goAs 6 = .ok (.iload_n 2, 1) := by decide +kernel
theorem dX12_goAs_7 : decode cX12_goAs 7 = .ok (.iaload, 1) := by decide +kernel
theorem dX12_goAs_8 : decode cX12_goAs 8 = .ok (.aload_n 0, 1) := by decide +kernel
theorem dX12_goAs_9 : decode cX12_goAs 9 = .ok (.getfield 35, 3) := by decide +kernel
theorem dX12_goAs_12 : decode cX12_goAs 12 = .ok (.iload_n 2, 1) := by decide +kernel
theorem dX12_goAs_13 : decode cX12_goAs 13 = .ok (.iaload, 1) := by decide +kernel
theorem dX12_goAs_14 : decode cX12_goAs 14 = .ok (.aload_n 0, 1) := by decide +kernel
theorem dX12_goAs_15 : decode cX12_goAs 15 = .ok (.getfield 38, 3) := by decide +kernel
theorem dX12_goAs_18 : decode cX12_goAs 18 = .ok (.iload_n 2, 1) := by decide +kernel
theorem dX12_goAs_19 : decode cX12_goAs 19 = .ok (.iaload, 1) := by decide +kernel
theorem dX12_goAs_20 : decode cX12_goAs 20 = .ok (.aload_n 0, 1) := by decide +kernel
theorem dX12_goAs_21 : decode cX12_goAs 21 = .ok (.getfield 47, 3) := by decide +kernel
theorem dX12_goAs_24 : decode cX12_goAs 24 = .ok (.iload_n 1, 1) := by decide +kernel
theorem dX12_goAs_25 : decode cX12_goAs 25 = .ok (.bipush 28, 2) := by decide +kernel
theorem dX12_goAs_27 : decode cX12_goAs 27 = .ok (.iadd, 1) := by decide +kernel
theorem dX12_goAs_28 : decode cX12_goAs 28 = .ok (.iload_n 2, 1) := by decide +kernel
theorem dX12_goAs_29 : decode cX12_goAs 29 = .ok (.iadd, 1) := by decide +kernel
theorem dX12_goAs_30 : decode cX12_goAs 30 = .ok (.iaload, 1) := by decide +kernel
theorem dX12_goAs_31 : decode cX12_goAs 31 = .ok (.invokevirtual 189, 3) := by decide +kernel
theorem dX12_goAs_34 : decode cX12_goAs 34 = .ok (.return_, 1) := by decide +kernel
theorem dX12_walk_0 : decode cX12_walk 0 = .ok (.aload_n 0, 1) := by decide +kernel
theorem dX12_walk_1 : decode cX12_walk 1 = .ok (.iload_n 1, 1) := by decide +kernel
theorem dX12_walk_2 : decode cX12_walk 2 = .ok (.invokevirtual 152, 3) := by decide +kernel
theorem dX12_walk_5 : decode cX12_walk 5 = .ok (.ifCond .eq 13, 3) := by decide +kernel
theorem dX12_walk_8 : decode cX12_walk 8 = .ok (.iload_n 2, 1) := by decide +kernel
theorem dX12_walk_9 : decode cX12_walk 9 = .ok (.iconst 0, 1) := by decide +kernel
theorem dX12_walk_10 : decode cX12_walk 10 = .ok (.bipush 30, 2) := by decide +kernel
theorem dX12_walk_12 : decode cX12_walk 12 = .ok (.invokestatic 94, 3) := by decide +kernel
theorem dX12_walk_15 : decode cX12_walk 15 = .ok (.ifCond .ne 5, 3) := by decide +kernel
theorem dX12_walk_18 : decode cX12_walk 18 = .ok (.iconst (-1), 1) := by decide +kernel
theorem dX12_walk_19 : decode cX12_walk 19 = .ok (.ireturn, 1) := by decide +kernel
theorem dX12_walk_20 : decode cX12_walk 20 = .ok (.aload_n 0, 1) := by decide +kernel
theorem dX12_walk_21 : decode cX12_walk 21 = .ok (.iconst 0, 1) := by decide +kernel
theorem dX12_walk_22 : decode cX12_walk 22 = .ok (.iload_n 1, 1) := by decide +kernel
theorem dX12_walk_23 : decode cX12_walk 23 = .ok (.invokevirtual 193, 3) := by decide +kernel
theorem dX12_walk_26 : decode cX12_walk 26 = .ok (.aload_n 0, 1) := by decide +kernel
theorem dX12_walk_27 : decode cX12_walk 27 = .ok (.getfield 56, 3) := by decide +kernel
theorem dX12_walk_30 : decode cX12_walk 30 = .ok (.iload_n 2, 1) := by decide +kernel
theorem dX12_walk_31 : decode cX12_walk 31 = .ok (.iaload, 1) := by decide +kernel
theorem dX12_walk_32 : decode cX12_walk 32 = .ok (.ireturn, 1) := by decide +kernel
theorem dX12_way_0 : decode cX12_way 0 = .ok (.aload_n 0, 1) := by decide +kernel
theorem dX12_way_1 : decode cX12_way 1 = .ok (.iload_n 1, 1) := by decide +kernel
theorem dX12_way_2 : decode cX12_way 2 = .ok (.invokevirtual 152, 3) := by decide +kernel
theorem dX12_way_5 : decode cX12_way 5 = .ok (.ifCond .eq 12, 3) := by decide +kernel
theorem dX12_way_8 : decode cX12_way 8 = .ok (.iload_n 2, 1) := by decide +kernel
theorem dX12_way_9 : decode cX12_way 9 = .ok (.iconst 0, 1) := by decide +kernel
theorem dX12_way_10 : decode cX12_way 10 = .ok (.iconst 4, 1) := by decide +kernel
theorem dX12_way_11 : decode cX12_way 11 = .ok (.invokestatic 94, 3) := by decide +kernel
theorem dX12_way_14 : decode cX12_way 14 = .ok (.ifCond .ne 5, 3) := by decide +kernel
theorem dX12_way_17 : decode cX12_way 17 = .ok (.iconst (-1), 1) := by decide +kernel
theorem dX12_way_18 : decode cX12_way 18 = .ok (.ireturn, 1) := by decide +kernel
theorem dX12_way_19 : decode cX12_way 19 = .ok (.aload_n 0, 1) := by decide +kernel
theorem dX12_way_20 : decode cX12_way 20 = .ok (.iconst 0, 1) := by decide +kernel
theorem dX12_way_21 : decode cX12_way 21 = .ok (.iload_n 1, 1) := by decide +kernel
theorem dX12_way_22 : decode cX12_way 22 = .ok (.invokevirtual 193, 3) := by decide +kernel
theorem dX12_way_25 : decode cX12_way 25 = .ok (.iload_n 2, 1) := by decide +kernel
theorem dX12_way_26 : decode cX12_way 26 = .ok (.ifCond .ne 10, 3) := by decide +kernel
theorem dX12_way_29 : decode cX12_way 29 = .ok (.aload_n 0, 1) := by decide +kernel
theorem dX12_way_30 : decode cX12_way 30 = .ok (.getfield 170, 3) := by decide +kernel
theorem dX12_way_33 : decode cX12_way 33 = .ok (.goto 51, 3) := by decide +kernel
theorem dX12_way_36 : decode cX12_way 36 = .ok (.iload_n 2, 1) := by decide +kernel
theorem dX12_way_37 : decode cX12_way 37 = .ok (.iconst 1, 1) := by decide +kernel
theorem dX12_way_38 : decode cX12_way 38 = .ok (.if_icmp .ne 10, 3) := by decide +kernel
theorem dX12_way_41 : decode cX12_way 41 = .ok (.aload_n 0, 1) := by decide +kernel
theorem dX12_way_42 : decode cX12_way 42 = .ok (.getfield 173, 3) := by decide +kernel
theorem dX12_way_45 : decode cX12_way 45 = .ok (.goto 39, 3) := by decide +kernel
theorem dX12_way_48 : decode cX12_way 48 = .ok (.iload_n 2, 1) := by decide +kernel
theorem dX12_way_49 : decode cX12_way 49 = .ok (.iconst 2, 1) := by decide +kernel
theorem dX12_way_50 : decode cX12_way 50 = .ok (.if_icmp .ne 10, 3) := by decide +kernel
theorem dX12_way_53 : decode cX12_way 53 = .ok (.aload_n 0, 1) := by decide +kernel
theorem dX12_way_54 : decode cX12_way 54 = .ok (.getfield 176, 3) := by decide +kernel
theorem dX12_way_57 : decode cX12_way 57 = .ok (.goto 27, 3) := by decide +kernel
theorem dX12_way_60 : decode cX12_way 60 = .ok (.iload_n 2, 1) := by decide +kernel
theorem dX12_way_61 : decode cX12_way 61 = .ok (.iconst 3, 1) := by decide +kernel
theorem dX12_way_62 : decode cX12_way 62 = .ok (.if_icmp .ne 10, 3) := by decide +kernel
theorem dX12_way_65 : decode cX12_way 65 = .ok (.aload_n 0, 1) := by decide +kernel
theorem dX12_way_66 : decode cX12_way 66 = .ok (.getfield 179, 3) := by decide +kernel
theorem dX12_way_69 : decode cX12_way 69 = .ok (.goto 15, 3) := by decide +kernel
theorem dX12_way_72 : decode cX12_way 72 = .ok (.aload_n 0, 1) := by decide +kernel
theorem dX12_way_73 : decode cX12_way 73 = .ok (.getfield 186, 3) := by decide +kernel
theorem dX12_way_76 : decode cX12_way 76 = .ok (.ifCond .eq 7, 3) := by decide +kernel
theorem dX12_way_79 : decode cX12_way 79 = .ok (.iconst 1, 1) := by decide +kernel
theorem dX12_way_80 : decode cX12_way 80 = .ok (.goto 4, 3) := by decide +kernel
theorem dX12_way_83 : decode cX12_way 83 = .ok (.iconst 0, 1) := by decide +kernel
theorem dX12_way_84 : decode cX12_way 84 = .ok (.ireturn, 1) := by decide +kernel
theorem dX12_cameTo_0 : decode cX12_cameTo 0 = .ok (.iload_n 1, 1) := by decide +kernel
theorem dX12_cameTo_1 : decode cX12_cameTo 1 = .ok (.ifCond .ne 7, 3) := by decide +kernel
theorem dX12_cameTo_4 : decode cX12_cameTo 4 = .ok (.iconst (-1), 1) := by decide +kernel
theorem dX12_cameTo_5 : decode cX12_cameTo 5 = .ok (.goto 11, 3) := by decide +kernel
theorem dX12_cameTo_8 : decode cX12_cameTo 8 = .ok (.aload_n 0, 1) := by decide +kernel
theorem dX12_cameTo_9 : decode cX12_cameTo 9 = .ok (.getfield 56, 3) := by decide +kernel
theorem dX12_cameTo_12 : decode cX12_cameTo 12 = .ok (.iload_n 1, 1) := by decide +kernel
theorem dX12_cameTo_13 : decode cX12_cameTo 13 = .ok (.iconst 1, 1) := by decide +kernel
theorem dX12_cameTo_14 : decode cX12_cameTo 14 = .ok (.isub, 1) := by decide +kernel
theorem dX12_cameTo_15 : decode cX12_cameTo 15 = .ok (.iaload, 1) := by decide +kernel
theorem dX12_cameTo_16 : decode cX12_cameTo 16 = .ok (.ireturn, 1) := by decide +kernel
theorem dX12_round_0 : decode cX12_round 0 = .ok (.aload_n 0, 1) := by decide +kernel
theorem dX12_round_1 : decode cX12_round 1 = .ok (.iload_n 1, 1) := by decide +kernel
theorem dX12_round_2 : decode cX12_round 2 = .ok (.invokevirtual 152, 3) := by decide +kernel
theorem dX12_round_5 : decode cX12_round 5 = .ok (.ifCond .ne 5, 3) := by decide +kernel
theorem dX12_round_8 : decode cX12_round 8 = .ok (.iconst (-1), 1) := by decide +kernel
theorem dX12_round_9 : decode cX12_round 9 = .ok (.ireturn, 1) := by decide +kernel
theorem dX12_round_10 : decode cX12_round 10 = .ok (.aload_n 0, 1) := by decide +kernel
theorem dX12_round_11 : decode cX12_round 11 = .ok (.iconst 0, 1) := by decide +kernel
theorem dX12_round_12 : decode cX12_round 12 = .ok (.iload_n 1, 1) := by decide +kernel
theorem dX12_round_13 : decode cX12_round 13 = .ok (.invokevirtual 193, 3) := by decide +kernel
theorem dX12_round_16 : decode cX12_round 16 = .ok (.iconst 1, 1) := by decide +kernel
theorem dX12_round_17 : decode cX12_round 17 = .ok (.istore_n 2, 1) := by decide +kernel
theorem dX12_round_18 : decode cX12_round 18 = .ok (.iload_n 2, 1) := by decide +kernel
theorem dX12_round_19 : decode cX12_round 19 = .ok (.aload_n 0, 1) := by decide +kernel
theorem dX12_round_20 : decode cX12_round 20 = .ok (.getfield 170, 3) := by decide +kernel
theorem dX12_round_23 : decode cX12_round 23 = .ok (.if_icmp .gt 52, 3) := by decide +kernel
theorem dX12_round_26 : decode cX12_round 26 = .ok (.iconst 0, 1) := by decide +kernel
theorem dX12_round_27 : decode cX12_round 27 = .ok (.istore_n 3, 1) := by decide +kernel
theorem dX12_round_28 : decode cX12_round 28 = .ok (.iload_n 3, 1) := by decide +kernel
theorem dX12_round_29 : decode cX12_round 29 = .ok (.iload_n 2, 1) := by decide +kernel
theorem dX12_round_30 : decode cX12_round 30 = .ok (.if_icmp .ge 39, 3) := by decide +kernel
theorem dX12_round_33 : decode cX12_round 33 = .ok (.aload_n 0, 1) := by decide +kernel
theorem dX12_round_34 : decode cX12_round 34 = .ok (.getfield 56, 3) := by decide +kernel
theorem dX12_round_37 : decode cX12_round 37 = .ok (.iload_n 2, 1) := by decide +kernel
theorem dX12_round_38 : decode cX12_round 38 = .ok (.iaload, 1) := by decide +kernel
theorem dX12_round_39 : decode cX12_round 39 = .ok (.aload_n 0, 1) := by decide +kernel
theorem dX12_round_40 : decode cX12_round 40 = .ok (.getfield 56, 3) := by decide +kernel
theorem dX12_round_43 : decode cX12_round 43 = .ok (.iload_n 3, 1) := by decide +kernel
theorem dX12_round_44 : decode cX12_round 44 = .ok (.iaload, 1) := by decide +kernel
theorem dX12_round_45 : decode cX12_round 45 = .ok (.if_icmp .ne 18, 3) := by decide +kernel
theorem dX12_round_48 : decode cX12_round 48 = .ok (.aload_n 0, 1) := by decide +kernel
theorem dX12_round_49 : decode cX12_round 49 = .ok (.iload_n 2, 1) := by decide +kernel
theorem dX12_round_50 : decode cX12_round 50 = .ok (.invokevirtual 197, 3) := by decide +kernel
theorem dX12_round_53 : decode cX12_round 53 = .ok (.aload_n 0, 1) := by decide +kernel
theorem dX12_round_54 : decode cX12_round 54 = .ok (.iload_n 3, 1) := by decide +kernel
theorem dX12_round_55 : decode cX12_round 55 = .ok (.invokevirtual 197, 3) := by decide +kernel
theorem dX12_round_58 : decode cX12_round 58 = .ok (.if_icmp .ne 5, 3) := by decide +kernel
theorem dX12_round_61 : decode cX12_round 61 = .ok (.iload_n 2, 1) := by decide +kernel
theorem dX12_round_62 : decode cX12_round 62 = .ok (.ireturn, 1) := by decide +kernel
theorem dX12_round_63 : decode cX12_round 63 = .ok (.iinc 3 1, 3) := by decide +kernel
theorem dX12_round_66 : decode cX12_round 66 = .ok (.goto (-38), 3) := by decide +kernel
theorem dX12_round_69 : decode cX12_round 69 = .ok (.iinc 2 1, 3) := by decide +kernel
theorem dX12_round_72 : decode cX12_round 72 = .ok (.goto (-54), 3) := by decide +kernel
theorem dX12_round_75 : decode cX12_round 75 = .ok (.bipush (-4), 2) := by decide +kernel
theorem dX12_round_77 : decode cX12_round 77 = .ok (.ireturn, 1) := by decide +kernel
theorem dX12_taxBy_0 : decode cX12_taxBy 0 = .ok (.iconst 0, 1) := by decide +kernel
theorem dX12_taxBy_1 : decode cX12_taxBy 1 = .ok (.istore_n 2, 1) := by decide +kernel
theorem dX12_taxBy_2 : decode cX12_taxBy 2 = .ok (.iconst 0, 1) := by decide +kernel
theorem dX12_taxBy_3 : decode cX12_taxBy 3 = .ok (.istore_n 3, 1) := by decide +kernel
theorem dX12_taxBy_4 : decode cX12_taxBy 4 = .ok (.iload_n 3, 1) := by decide +kernel
theorem dX12_taxBy_5 : decode cX12_taxBy 5 = .ok (.aload_n 0, 1) := by decide +kernel
theorem dX12_taxBy_6 : decode cX12_taxBy 6 = .ok (.getfield 29, 3) := by decide +kernel
theorem dX12_taxBy_9 : decode cX12_taxBy 9 = .ok (.iconst 0, 1) := by decide +kernel
theorem dX12_taxBy_10 : decode cX12_taxBy 10 = .ok (.iaload, 1) := by decide +kernel
theorem dX12_taxBy_11 : decode cX12_taxBy 11 = .ok (.if_icmp .ge 22, 3) := by decide +kernel
theorem dX12_taxBy_14 : decode cX12_taxBy 14 = .ok (.aload_n 0, 1) := by decide +kernel
theorem dX12_taxBy_15 : decode cX12_taxBy 15 = .ok (.iload_n 1, 1) := by decide +kernel
theorem dX12_taxBy_16 : decode cX12_taxBy 16 = .ok (.iload_n 3, 1) := by decide +kernel
theorem dX12_taxBy_17 : decode cX12_taxBy 17 = .ok (.invokevirtual 193, 3) := by decide +kernel
theorem dX12_taxBy_20 : decode cX12_taxBy 20 = .ok (.iload_n 2, 1) := by decide +kernel
theorem dX12_taxBy_21 : decode cX12_taxBy 21 = .ok (.aload_n 0, 1) := by decide +kernel
theorem dX12_taxBy_22 : decode cX12_taxBy 22 = .ok (.getfield 179, 3) := by decide +kernel
theorem dX12_taxBy_25 : decode cX12_taxBy 25 = .ok (.iadd, 1) := by decide +kernel
theorem dX12_taxBy_26 : decode cX12_taxBy 26 = .ok (.istore_n 2, 1) := by decide +kernel
theorem dX12_taxBy_27 : decode cX12_taxBy 27 = .ok (.iinc 3 1, 3) := by decide +kernel
theorem dX12_taxBy_30 : decode cX12_taxBy 30 = .ok (.goto (-26), 3) := by decide +kernel
theorem dX12_taxBy_33 : decode cX12_taxBy 33 = .ok (.iload_n 2, 1) := by decide +kernel
theorem dX12_taxBy_34 : decode cX12_taxBy 34 = .ok (.ireturn, 1) := by decide +kernel
theorem dX12_tax_0 : decode cX12_tax 0 = .ok (.aload_n 0, 1) := by decide +kernel
theorem dX12_tax_1 : decode cX12_tax 1 = .ok (.iconst 0, 1) := by decide +kernel
theorem dX12_tax_2 : decode cX12_tax 2 = .ok (.invokevirtual 200, 3) := by decide +kernel
theorem dX12_tax_5 : decode cX12_tax 5 = .ok (.ireturn, 1) := by decide +kernel
theorem dX12_know_0 : decode cX12_know 0 = .ok (.aload_n 0, 1) := by decide +kernel
theorem dX12_know_1 : decode cX12_know 1 = .ok (.getfield 129, 3) := by decide +kernel
theorem dX12_know_4 : decode cX12_know 4 = .ok (.bipush 8, 2) := by decide +kernel
theorem dX12_know_6 : decode cX12_know 6 = .ok (.if_icmp .ne 46, 3) := by decide +kernel
theorem dX12_know_9 : decode cX12_know 9 = .ok (.iconst 0, 1) := by decide +kernel
theorem dX12_know_10 : decode cX12_know 10 = .ok (.istore_n 1, 1) := by decide +kernel
theorem dX12_know_11 : decode cX12_know 11 = .ok (.iload_n 1, 1) := by decide +kernel
theorem dX12_know_12 : decode cX12_know 12 = .ok (.sipush 224, 3) := by decide +kernel
theorem dX12_know_15 : decode cX12_know 15 = .ok (.if_icmp .ge 27, 3) := by decide +kernel
theorem dX12_know_18 : decode cX12_know 18 = .ok (.aload_n 0, 1) := by decide +kernel
theorem dX12_know_19 : decode cX12_know 19 = .ok (.getfield 47, 3) := by decide +kernel
theorem dX12_know_22 : decode cX12_know 22 = .ok (.bipush 32, 2) := by decide +kernel
theorem dX12_know_24 : decode cX12_know 24 = .ok (.iload_n 1, 1) := by decide +kernel
theorem dX12_know_25 : decode cX12_know 25 = .ok (.iadd, 1) := by decide +kernel
theorem dX12_know_26 : decode cX12_know 26 = .ok (.aload_n 0, 1) := by decide +kernel
theorem dX12_know_27 : decode cX12_know 27 = .ok (.getfield 47, 3) := by decide +kernel
theorem dX12_know_30 : decode cX12_know 30 = .ok (.bipush 64, 2) := by decide +kernel
theorem dX12_know_32 : decode cX12_know 32 = .ok (.iload_n 1, 1) := by decide +kernel
theorem dX12_know_33 : decode cX12_know 33 = .ok (.iadd, 1) := by decide +kernel
theorem dX12_know_34 : decode cX12_know 34 = .ok (.iaload, 1) := by decide +kernel
theorem dX12_know_35 : decode cX12_know 35 = .ok (.iastore, 1) := by decide +kernel
theorem dX12_know_36 : decode cX12_know 36 = .ok (.iinc 1 1, 3) := by decide +kernel
theorem dX12_know_39 : decode cX12_know 39 = .ok (.goto (-28), 3) := by decide +kernel
theorem dX12_know_42 : decode cX12_know 42 = .ok (.aload_n 0, 1) := by decide +kernel
theorem dX12_know_43 : decode cX12_know 43 = .ok (.dup, 1) := by decide +kernel
theorem dX12_know_44 : decode cX12_know 44 = .ok (.getfield 129, 3) := by decide +kernel
theorem dX12_know_47 : decode cX12_know 47 = .ok (.iconst 1, 1) := by decide +kernel
theorem dX12_know_48 : decode cX12_know 48 = .ok (.isub, 1) := by decide +kernel
theorem dX12_know_49 : decode cX12_know 49 = .ok (.putfield 129, 3) := by decide +kernel
theorem dX12_know_52 : decode cX12_know 52 = .ok (.aload_n 0, 1) := by decide +kernel
theorem dX12_know_53 : decode cX12_know 53 = .ok (.iconst 0, 1) := by decide +kernel
theorem dX12_know_54 : decode cX12_know 54 = .ok (.bipush 32, 2) := by decide +kernel
theorem dX12_know_56 : decode cX12_know 56 = .ok (.bipush 32, 2) := by decide +kernel
theorem dX12_know_58 : decode cX12_know 58 = .ok (.aload_n 0, 1) := by decide +kernel
theorem dX12_know_59 : decode cX12_know 59 = .ok (.getfield 129, 3) := by decide +kernel
theorem dX12_know_62 : decode cX12_know 62 = .ok (.imul, 1) := by decide +kernel
theorem dX12_know_63 : decode cX12_know 63 = .ok (.iadd, 1) := by decide +kernel
theorem dX12_know_64 : decode cX12_know 64 = .ok (.invokevirtual 203, 3) := by decide +kernel
theorem dX12_know_67 : decode cX12_know 67 = .ok (.aload_n 0, 1) := by decide +kernel
theorem dX12_know_68 : decode cX12_know 68 = .ok (.dup, 1) := by decide +kernel
theorem dX12_know_69 : decode cX12_know 69 = .ok (.getfield 129, 3) := by decide +kernel
theorem dX12_know_72 : decode cX12_know 72 = .ok (.iconst 1, 1) := by decide +kernel
theorem dX12_know_73 : decode cX12_know 73 = .ok (.iadd, 1) := by decide +kernel
theorem dX12_know_74 : decode cX12_know 74 = .ok (.putfield 129, 3) := by decide +kernel
theorem dX12_know_77 : decode cX12_know 77 = .ok (.return_, 1) := by decide +kernel
theorem dX12_putUp_0 : decode cX12_putUp 0 = .ok (.iload_n 1, 1) := by decide +kernel
theorem dX12_putUp_1 : decode cX12_putUp 1 = .ok (.iconst 1, 1) := by decide +kernel
theorem dX12_putUp_2 : decode cX12_putUp 2 = .ok (.iadd, 1) := by decide +kernel
theorem dX12_putUp_3 : decode cX12_putUp 3 = .ok (.iconst 3, 1) := by decide +kernel
theorem dX12_putUp_4 : decode cX12_putUp 4 = .ok (.aload_n 0, 1) := by decide +kernel
theorem dX12_putUp_5 : decode cX12_putUp 5 = .ok (.getfield 47, 3) := by decide +kernel
theorem dX12_putUp_8 : decode cX12_putUp 8 = .ok (.iload_n 1, 1) := by decide +kernel
theorem dX12_putUp_9 : decode cX12_putUp 9 = .ok (.iconst 0, 1) := by decide +kernel
theorem dX12_putUp_10 : decode cX12_putUp 10 = .ok (.iadd, 1) := by decide +kernel
theorem dX12_putUp_11 : decode cX12_putUp 11 = .ok (.iaload, 1) := by decide +kernel
theorem dX12_putUp_12 : decode cX12_putUp 12 = .ok (.imul, 1) := by decide +kernel
theorem dX12_putUp_13 : decode cX12_putUp 13 = .ok (.iadd, 1) := by decide +kernel
theorem dX12_putUp_14 : decode cX12_putUp 14 = .ok (.istore 5, 2) := by decide +kernel
theorem dX12_putUp_16 : decode cX12_putUp 16 = .ok (.aload_n 0, 1) := by decide +kernel
theorem dX12_putUp_17 : decode cX12_putUp 17 = .ok (.getfield 47, 3) := by decide +kernel
theorem dX12_putUp_20 : decode cX12_putUp 20 = .ok (.iload 5, 2) := by decide +kernel
theorem dX12_putUp_22 : decode cX12_putUp 22 = .ok (.iload_n 2, 1) := by decide +kernel
theorem dX12_putUp_23 : decode cX12_putUp 23 = .ok (.iastore, 1) := by decide +kernel
theorem dX12_putUp_24 : decode cX12_putUp 24 = .ok (.aload_n 0, 1) := by decide +kernel
theorem dX12_putUp_25 : decode cX12_putUp 25 = .ok (.getfield 47, 3) := by decide +kernel
theorem dX12_putUp_28 : decode cX12_putUp 28 = .ok (.iload 5, 2) := by decide +kernel
theorem dX12_putUp_30 : decode cX12_putUp 30 = .ok (.iconst 1, 1) := by decide +kernel
theorem dX12_putUp_31 : decode cX12_putUp 31 = .ok (.iadd, 1) := by decide +kernel
theorem dX12_putUp_32 : decode cX12_putUp 32 = .ok (.iload_n 3, 1) := by decide +kernel
theorem dX12_putUp_33 : decode cX12_putUp 33 = .ok (.iastore, 1) := by decide +kernel
end
section
theorem dX12_putUp_34 : decode cX12_putUp 34 = .ok (.aload_n 0, 1) := by decide +kernel
theorem dX12_putUp_35 : decode cX12_putUp 35 = .ok (.getfield 47, 3) := by decide +kernel
theorem dX12_putUp_38 : decode cX12_putUp 38 = .ok (.iload 5, 2) := by decide +kernel
theorem dX12_putUp_40 : decode cX12_putUp 40 = .ok (.iconst 2, 1) := by decide +kernel
theorem dX12_putUp_41 : decode cX12_putUp 41 = .ok (.iadd, 1) := by decide +kernel
theorem dX12_putUp_42 : decode cX12_putUp 42 = .ok (.iload 4, 2) := by decide +kernel
theorem dX12_putUp_44 : decode cX12_putUp 44 = .ok (.iastore, 1) := by decide +kernel
theorem dX12_putUp_45 : decode cX12_putUp 45 = .ok (.aload_n 0, 1) := by decide +kernel
theorem dX12_putUp_46 : decode cX12_putUp 46 = .ok (.getfield 47, 3) := by decide +kernel
theorem dX12_putUp_49 : decode cX12_putUp 49 = .ok (.iload_n 1, 1) := by decide +kernel
theorem dX12_putUp_50 : decode cX12_putUp 50 = .ok (.iconst 0, 1) := by decide +kernel
theorem dX12_putUp_51 : decode cX12_putUp 51 = .ok (.iadd, 1) := by decide +kernel
theorem dX12_putUp_52 : decode cX12_putUp 52 = .ok (.dup2, 1) := by decide +kernel
theorem dX12_putUp_53 : decode cX12_putUp 53 = .ok (.iaload, 1) := by decide +kernel
theorem dX12_putUp_54 : decode cX12_putUp 54 = .ok (.iconst 1, 1) := by decide +kernel
theorem dX12_putUp_55 : decode cX12_putUp 55 = .ok (.iadd, 1) := by decide +kernel
theorem dX12_putUp_56 : decode cX12_putUp 56 = .ok (.iastore, 1) := by decide +kernel
theorem dX12_putUp_57 : decode cX12_putUp 57 = .ok (.return_, 1) := by decide +kernel
theorem dX12_takeDown_0 : decode cX12_takeDown 0 = .ok (.iconst 3, 1) := by decide +kernel
theorem dX12_takeDown_1 : decode cX12_takeDown 1 = .ok (.iload_n 2, 1) := by decide +kernel
theorem dX12_takeDown_2 : decode cX12_takeDown 2 = .ok (.imul, 1) := by decide +kernel
theorem dX12_takeDown_3 : decode cX12_takeDown 3 = .ok (.istore_n 3, 1) := by decide +kernel
theorem dX12_takeDown_4 : decode cX12_takeDown 4 = .ok (.iload_n 3, 1) := by decide +kernel
theorem dX12_takeDown_5 : decode cX12_takeDown 5 = .ok (.iconst 3, 1) := by decide +kernel
theorem dX12_takeDown_6 : decode cX12_takeDown 6 = .ok (.aload_n 0, 1) := by decide +kernel
theorem dX12_takeDown_7 : decode cX12_takeDown 7 = .ok (.getfield 47, 3) := by decide +kernel
theorem dX12_takeDown_10 : decode cX12_takeDown 10 = .ok (.iload_n 1, 1) := by decide +kernel
theorem dX12_takeDown_11 : decode cX12_takeDown 11 = .ok (.iconst 0, 1) := by decide +kernel
theorem dX12_takeDown_12 : decode cX12_takeDown 12 = .ok (.iadd, 1) := by decide +kernel
theorem dX12_takeDown_13 : decode cX12_takeDown 13 = .ok (.iaload, 1) := by decide +kernel
theorem dX12_takeDown_14 : decode cX12_takeDown 14 = .ok (.imul, 1) := by decide +kernel
theorem dX12_takeDown_15 : decode cX12_takeDown 15 = .ok (.iconst 3, 1) := by decide +kernel
theorem dX12_takeDown_16 : decode cX12_takeDown 16 = .ok (.isub, 1) := by decide +kernel
theorem dX12_takeDown_17 : decode cX12_takeDown 17 = .ok (.if_icmp .ge 31, 3) := by decide +kernel
theorem dX12_takeDown_20 : decode cX12_takeDown 20 = .ok (.aload_n 0, 1) := by decide +kernel
theorem dX12_takeDown_21 : decode cX12_takeDown 21 = .ok (.getfield 47, 3) := by decide +kernel
theorem dX12_takeDown_24 : decode cX12_takeDown 24 = .ok (.iload_n 1, 1) := by decide +kernel
theorem dX12_takeDown_25 : decode cX12_takeDown 25 = .ok (.iconst 1, 1) := by decide +kernel
theorem dX12_takeDown_26 : decode cX12_takeDown 26 = .ok (.iadd, 1) := by decide +kernel
theorem dX12_takeDown_27 : decode cX12_takeDown 27 = .ok (.iload_n 3, 1) := by decide +kernel
theorem dX12_takeDown_28 : decode cX12_takeDown 28 = .ok (.iadd, 1) := by decide +kernel
theorem dX12_takeDown_29 : decode cX12_takeDown 29 = .ok (.aload_n 0, 1) := by decide +kernel
theorem dX12_takeDown_30 : decode cX12_takeDown 30 = .ok (.getfield 47, 3) := by decide +kernel
theorem dX12_takeDown_33 : decode cX12_takeDown 33 = .ok (.iload_n 1, 1) := by decide +kernel
theorem dX12_takeDown_34 : decode cX12_takeDown 34 = .ok (.iconst 1, 1) := by decide +kernel
theorem dX12_takeDown_35 : decode cX12_takeDown 35 = .ok (.iadd, 1) := by decide +kernel
theorem dX12_takeDown_36 : decode cX12_takeDown 36 = .ok (.iconst 3, 1) := by decide +kernel
theorem dX12_takeDown_37 : decode cX12_takeDown 37 = .ok (.iadd, 1) := by decide +kernel
theorem dX12_takeDown_38 : decode cX12_takeDown 38 = .ok (.iload_n 3, 1) := by decide +kernel
theorem dX12_takeDown_39 : decode cX12_takeDown 39 = .ok (.iadd, 1) := by decide +kernel
theorem dX12_takeDown_40 : decode cX12_takeDown 40 = .ok (.iaload, 1) := by decide +kernel
theorem dX12_takeDown_41 : decode cX12_takeDown 41 = .ok (.iastore, 1) := by decide +kernel
theorem dX12_takeDown_42 : decode cX12_takeDown 42 = .ok (.iinc 3 1, 3) := by decide +kernel
theorem dX12_takeDown_45 : decode cX12_takeDown 45 = .ok (.goto (-41), 3) := by decide +kernel
theorem dX12_takeDown_48 : decode cX12_takeDown 48 = .ok (.aload_n 0, 1) := by decide +kernel
theorem dX12_takeDown_49 : decode cX12_takeDown 49 = .ok (.getfield 47, 3) := by decide +kernel
theorem dX12_takeDown_52 : decode cX12_takeDown 52 = .ok (.iload_n 1, 1) := by decide +kernel
theorem dX12_takeDown_53 : decode cX12_takeDown 53 = .ok (.iconst 0, 1) := by decide +kernel
theorem dX12_takeDown_54 : decode cX12_takeDown 54 = .ok (.iadd, 1) := by decide +kernel
theorem dX12_takeDown_55 : decode cX12_takeDown 55 = .ok (.dup2, 1) := by decide +kernel
theorem dX12_takeDown_56 : decode cX12_takeDown 56 = .ok (.iaload, 1) := by decide +kernel
theorem dX12_takeDown_57 : decode cX12_takeDown 57 = .ok (.iconst 1, 1) := by decide +kernel
theorem dX12_takeDown_58 : decode cX12_takeDown 58 = .ok (.isub, 1) := by decide +kernel
theorem dX12_takeDown_59 : decode cX12_takeDown 59 = .ok (.iastore, 1) := by decide +kernel
theorem dX12_takeDown_60 : decode cX12_takeDown 60 = .ok (.return_, 1) := by decide +kernel
theorem dX12_put_0 : decode cX12_put 0 = .ok (.aload_n 0, 1) := by decide +kernel
theorem dX12_put_1 : decode cX12_put 1 = .ok (.iload_n 1, 1) := by decide +kernel
theorem dX12_put_2 : decode cX12_put 2 = .ok (.invokevirtual 145, 3) := by decide +kernel
theorem dX12_put_5 : decode cX12_put 5 = .ok (.ifCond .eq 19, 3) := by decide +kernel
theorem dX12_put_8 : decode cX12_put 8 = .ok (.aload_n 0, 1) := by decide +kernel
theorem dX12_put_9 : decode cX12_put 9 = .ok (.iload_n 2, 1) := by decide +kernel
theorem dX12_put_10 : decode cX12_put 10 = .ok (.invokevirtual 145, 3) := by decide +kernel
theorem dX12_put_13 : decode cX12_put 13 = .ok (.ifCond .eq 11, 3) := by decide +kernel
theorem dX12_put_16 : decode cX12_put 16 = .ok (.aload_n 0, 1) := by decide +kernel
theorem dX12_put_17 : decode cX12_put 17 = .ok (.iload_n 3, 1) := by decide +kernel
theorem dX12_put_18 : decode cX12_put 18 = .ok (.invokevirtual 145, 3) := by decide +kernel
theorem dX12_put_21 : decode cX12_put 21 = .ok (.ifCond .ne 5, 3) := by decide +kernel
theorem dX12_put_24 : decode cX12_put 24 = .ok (.iconst (-1), 1) := by decide +kernel
theorem dX12_put_25 : decode cX12_put 25 = .ok (.ireturn, 1) := by decide +kernel
theorem dX12_put_26 : decode cX12_put 26 = .ok (.aload_n 0, 1) := by decide +kernel
theorem dX12_put_27 : decode cX12_put 27 = .ok (.getfield 47, 3) := by decide +kernel
theorem dX12_put_30 : decode cX12_put 30 = .ok (.iconst 0, 1) := by decide +kernel
theorem dX12_put_31 : decode cX12_put 31 = .ok (.iaload, 1) := by decide +kernel
theorem dX12_put_32 : decode cX12_put 32 = .ok (.bipush 8, 2) := by decide +kernel
theorem dX12_put_34 : decode cX12_put 34 = .ok (.if_icmp .ne 6, 3) := by decide +kernel
theorem dX12_put_37 : decode cX12_put 37 = .ok (.bipush (-3), 2) := by decide +kernel
theorem dX12_put_39 : decode cX12_put 39 = .ok (.ireturn, 1) := by decide +kernel
theorem dX12_put_40 : decode cX12_put 40 = .ok (.aload_n 0, 1) := by decide +kernel
theorem dX12_put_41 : decode cX12_put 41 = .ok (.invokevirtual 206, 3) := by decide +kernel
theorem dX12_put_44 : decode cX12_put 44 = .ok (.aload_n 0, 1) := by decide +kernel
theorem dX12_put_45 : decode cX12_put 45 = .ok (.iconst 0, 1) := by decide +kernel
theorem dX12_put_46 : decode cX12_put 46 = .ok (.iload_n 1, 1) := by decide +kernel
theorem dX12_put_47 : decode cX12_put 47 = .ok (.iload_n 2, 1) := by decide +kernel
theorem dX12_put_48 : decode cX12_put 48 = .ok (.iload_n 3, 1) := by decide +kernel
theorem dX12_put_49 : decode cX12_put 49 = .ok (.invokevirtual 209, 3) := by decide +kernel
theorem dX12_put_52 : decode cX12_put 52 = .ok (.aload_n 0, 1) := by decide +kernel
theorem dX12_put_53 : decode cX12_put 53 = .ok (.getfield 47, 3) := by decide +kernel
theorem dX12_put_56 : decode cX12_put 56 = .ok (.iconst 0, 1) := by decide +kernel
theorem dX12_put_57 : decode cX12_put 57 = .ok (.iaload, 1) := by decide +kernel
theorem dX12_put_58 : decode cX12_put 58 = .ok (.ireturn, 1) := by decide +kernel
theorem dX12_take_0 : decode cX12_take 0 = .ok (.aload_n 0, 1) := by decide +kernel
theorem dX12_take_1 : decode cX12_take 1 = .ok (.iload_n 1, 1) := by decide +kernel
theorem dX12_take_2 : decode cX12_take 2 = .ok (.invokevirtual 149, 3) := by decide +kernel
theorem dX12_take_5 : decode cX12_take 5 = .ok (.ifCond .ne 5, 3) := by decide +kernel
theorem dX12_take_8 : decode cX12_take 8 = .ok (.iconst (-1), 1) := by decide +kernel
theorem dX12_take_9 : decode cX12_take 9 = .ok (.ireturn, 1) := by decide +kernel
theorem dX12_take_10 : decode cX12_take 10 = .ok (.aload_n 0, 1) := by decide +kernel
theorem dX12_take_11 : decode cX12_take 11 = .ok (.invokevirtual 206, 3) := by decide +kernel
theorem dX12_take_14 : decode cX12_take 14 = .ok (.aload_n 0, 1) := by decide +kernel
theorem dX12_take_15 : decode cX12_take 15 = .ok (.iconst 0, 1) := by decide +kernel
theorem dX12_take_16 : decode cX12_take 16 = .ok (.iload_n 1, 1) := by decide +kernel
theorem dX12_take_17 : decode cX12_take 17 = .ok (.invokevirtual 213, 3) := by decide +kernel
theorem dX12_take_20 : decode cX12_take 20 = .ok (.aload_n 0, 1) := by decide +kernel
theorem dX12_take_21 : decode cX12_take 21 = .ok (.getfield 47, 3) := by decide +kernel
theorem dX12_take_24 : decode cX12_take 24 = .ok (.iconst 0, 1) := by decide +kernel
theorem dX12_take_25 : decode cX12_take 25 = .ok (.iaload, 1) := by decide +kernel
theorem dX12_take_26 : decode cX12_take 26 = .ok (.ireturn, 1) := by decide +kernel
theorem dX12_tell_0 : decode cX12_tell 0 = .ok (.aload_n 0, 1) := by decide +kernel
theorem dX12_tell_1 : decode cX12_tell 1 = .ok (.iload_n 1, 1) := by decide +kernel
theorem dX12_tell_2 : decode cX12_tell 2 = .ok (.invokevirtual 152, 3) := by decide +kernel
theorem dX12_tell_5 : decode cX12_tell 5 = .ok (.ifCond .eq 11, 3) := by decide +kernel
theorem dX12_tell_8 : decode cX12_tell 8 = .ok (.aload_n 0, 1) := by decide +kernel
theorem dX12_tell_9 : decode cX12_tell 9 = .ok (.iload_n 2, 1) := by decide +kernel
theorem dX12_tell_10 : decode cX12_tell 10 = .ok (.invokevirtual 145, 3) := by decide +kernel
theorem dX12_tell_13 : decode cX12_tell 13 = .ok (.ifCond .ne 5, 3) := by decide +kernel
theorem dX12_tell_16 : decode cX12_tell 16 = .ok (.iconst (-1), 1) := by decide +kernel
theorem dX12_tell_17 : decode cX12_tell 17 = .ok (.ireturn, 1) := by decide +kernel
theorem dX12_tell_18 : decode cX12_tell 18 = .ok (.aload_n 0, 1) := by decide +kernel
theorem dX12_tell_19 : decode cX12_tell 19 = .ok (.invokevirtual 206, 3) := by decide +kernel
theorem dX12_tell_22 : decode cX12_tell 22 = .ok (.aload_n 0, 1) := by decide +kernel
theorem dX12_tell_23 : decode cX12_tell 23 = .ok (.getfield 47, 3) := by decide +kernel
theorem dX12_tell_26 : decode cX12_tell 26 = .ok (.bipush 28, 2) := by decide +kernel
theorem dX12_tell_28 : decode cX12_tell 28 = .ok (.iload_n 1, 1) := by decide +kernel
theorem dX12_tell_29 : decode cX12_tell 29 = .ok (.iadd, 1) := by decide +kernel
theorem dX12_tell_30 : decode cX12_tell 30 = .ok (.iaload, 1) := by decide +kernel
theorem dX12_tell_31 : decode cX12_tell 31 = .ok (.istore_n 3, 1) := by decide +kernel
theorem dX12_tell_32 : decode cX12_tell 32 = .ok (.aload_n 0, 1) := by decide +kernel
theorem dX12_tell_33 : decode cX12_tell 33 = .ok (.getfield 47, 3) := by decide +kernel
theorem dX12_tell_36 : decode cX12_tell 36 = .ok (.bipush 28, 2) := by decide +kernel
theorem dX12_tell_38 : decode cX12_tell 38 = .ok (.iload_n 1, 1) := by decide +kernel
theorem dX12_tell_39 : decode cX12_tell 39 = .ok (.iadd, 1) := by decide +kernel
theorem dX12_tell_40 : decode cX12_tell 40 = .ok (.iload_n 2, 1) := by decide +kernel
theorem dX12_tell_41 : decode cX12_tell 41 = .ok (.iastore, 1) := by decide +kernel
theorem dX12_tell_42 : decode cX12_tell 42 = .ok (.iload_n 3, 1) := by decide +kernel
theorem dX12_tell_43 : decode cX12_tell 43 = .ok (.ireturn, 1) := by decide +kernel
theorem dX12_undo_0 : decode cX12_undo 0 = .ok (.aload_n 0, 1) := by decide +kernel
theorem dX12_undo_1 : decode cX12_undo 1 = .ok (.getfield 129, 3) := by decide +kernel
theorem dX12_undo_4 : decode cX12_undo 4 = .ok (.ifCond .ne 6, 3) := by decide +kernel
theorem dX12_undo_7 : decode cX12_undo 7 = .ok (.bipush (-2), 2) := by decide +kernel
theorem dX12_undo_9 : decode cX12_undo 9 = .ok (.ireturn, 1) := by decide +kernel
theorem dX12_undo_10 : decode cX12_undo 10 = .ok (.aload_n 0, 1) := by decide +kernel
theorem dX12_undo_11 : decode cX12_undo 11 = .ok (.dup, 1) := by decide +kernel
theorem dX12_undo_12 : decode cX12_undo 12 = .ok (.getfield 129, 3) := by decide +kernel
theorem dX12_undo_15 : decode cX12_undo 15 = .ok (.iconst 1, 1) := by decide +kernel
theorem dX12_undo_16 : decode cX12_undo 16 = .ok (.isub, 1) := by decide +kernel
theorem dX12_undo_17 : decode cX12_undo 17 = .ok (.putfield 129, 3) := by decide +kernel
theorem dX12_undo_20 : decode cX12_undo 20 = .ok (.aload_n 0, 1) := by decide +kernel
theorem dX12_undo_21 : decode cX12_undo 21 = .ok (.bipush 32, 2) := by decide +kernel
theorem dX12_undo_23 : decode cX12_undo 23 = .ok (.bipush 32, 2) := by decide +kernel
theorem dX12_undo_25 : decode cX12_undo 25 = .ok (.aload_n 0, 1) := by decide +kernel
theorem dX12_undo_26 : decode cX12_undo 26 = .ok (.getfield 129, 3) := by decide +kernel
theorem dX12_undo_29 : decode cX12_undo 29 = .ok (.imul, 1) := by decide +kernel
theorem dX12_undo_30 : decode cX12_undo 30 = .ok (.iadd, 1) := by decide +kernel
theorem dX12_undo_31 : decode cX12_undo 31 = .ok (.iconst 0, 1) := by decide +kernel
theorem dX12_undo_32 : decode cX12_undo 32 = .ok (.invokevirtual 203, 3) := by decide +kernel
theorem dX12_undo_35 : decode cX12_undo 35 = .ok (.aload_n 0, 1) := by decide +kernel
theorem dX12_undo_36 : decode cX12_undo 36 = .ok (.getfield 129, 3) := by decide +kernel
theorem dX12_undo_39 : decode cX12_undo 39 = .ok (.ireturn, 1) := by decide +kernel
theorem dX12_lies_0 : decode cX12_lies 0 = .ok (.iconst 0, 1) := by decide +kernel
theorem dX12_lies_1 : decode cX12_lies 1 = .ok (.istore_n 1, 1) := by decide +kernel
theorem dX12_lies_2 : decode cX12_lies 2 = .ok (.iconst 0, 1) := by decide +kernel
theorem dX12_lies_3 : decode cX12_lies 3 = .ok (.istore_n 2, 1) := by decide +kernel
theorem dX12_lies_4 : decode cX12_lies 4 = .ok (.iload_n 2, 1) := by decide +kernel
theorem dX12_lies_5 : decode cX12_lies 5 = .ok (.aload_n 0, 1) := by decide +kernel
theorem dX12_lies_6 : decode cX12_lies 6 = .ok (.getfield 47, 3) := by decide +kernel
theorem dX12_lies_9 : decode cX12_lies 9 = .ok (.iconst 0, 1) := by decide +kernel
theorem dX12_lies_10 : decode cX12_lies 10 = .ok (.iaload, 1) := by decide +kernel
theorem dX12_lies_11 : decode cX12_lies 11 = .ok (.if_icmp .ge 71, 3) := by decide +kernel
theorem dX12_lies_14 : decode cX12_lies 14 = .ok (.iconst 1, 1) := by decide +kernel
theorem dX12_lies_15 : decode cX12_lies 15 = .ok (.iconst 3, 1) := by decide +kernel
theorem dX12_lies_16 : decode cX12_lies 16 = .ok (.iload_n 2, 1) := by decide +kernel
theorem dX12_lies_17 : decode cX12_lies 17 = .ok (.imul, 1) := by decide +kernel
theorem dX12_lies_18 : decode cX12_lies 18 = .ok (.iadd, 1) := by decide +kernel
theorem dX12_lies_19 : decode cX12_lies 19 = .ok (.istore_n 3, 1) := by decide +kernel
theorem dX12_lies_20 : decode cX12_lies 20 = .ok (.iload_n 1, 1) := by decide +kernel
theorem dX12_lies_21 : decode cX12_lies 21 = .ok (.aload_n 0, 1) := by decide +kernel
theorem dX12_lies_22 : decode cX12_lies 22 = .ok (.getfield 47, 3) := by decide +kernel
theorem dX12_lies_25 : decode cX12_lies 25 = .ok (.iload_n 3, 1) := by decide +kernel
theorem dX12_lies_26 : decode cX12_lies 26 = .ok (.iaload, 1) := by decide +kernel
theorem dX12_lies_27 : decode cX12_lies 27 = .ok (.aload_n 0, 1) := by decide +kernel
theorem dX12_lies_28 : decode cX12_lies 28 = .ok (.getfield 47, 3) := by decide +kernel
theorem dX12_lies_31 : decode cX12_lies 31 = .ok (.iload_n 3, 1) := by decide +kernel
theorem dX12_lies_32 : decode cX12_lies 32 = .ok (.iconst 1, 1) := by decide +kernel
theorem dX12_lies_33 : decode cX12_lies 33 = .ok (.iadd, 1) := by decide +kernel
theorem dX12_lies_34 : decode cX12_lies 34 = .ok (.iaload, 1) := by decide +kernel
theorem dX12_lies_35 : decode cX12_lies 35 = .ok (.if_icmp .eq 36, 3) := by decide +kernel
theorem dX12_lies_38 : decode cX12_lies 38 = .ok (.aload_n 0, 1) := by decide +kernel
theorem dX12_lies_39 : decode cX12_lies 39 = .ok (.aload_n 0, 1) := by decide +kernel
theorem dX12_lies_40 : decode cX12_lies 40 = .ok (.getfield 47, 3) := by decide +kernel
theorem dX12_lies_43 : decode cX12_lies 43 = .ok (.iload_n 3, 1) := by decide +kernel
theorem dX12_lies_44 : decode cX12_lies 44 = .ok (.iaload, 1) := by decide +kernel
theorem dX12_lies_45 : decode cX12_lies 45 = .ok (.aload_n 0, 1) := by decide +kernel
theorem dX12_lies_46 : decode cX12_lies 46 = .ok (.getfield 47, 3) := by decide +kernel
theorem dX12_lies_49 : decode cX12_lies 49 = .ok (.iload_n 3, 1) := by decide +kernel
theorem dX12_lies_50 : decode cX12_lies 50 = .ok (.iconst 2, 1) := by decide +kernel
theorem dX12_lies_51 : decode cX12_lies 51 = .ok (.iadd, 1) := by decide +kernel
theorem dX12_lies_52 : decode cX12_lies 52 = .ok (.iaload, 1) := by decide +kernel
theorem dX12_lies_53 : decode cX12_lies 53 = .ok (.aload_n 0, 1) := by decide +kernel
theorem dX12_lies_54 : decode cX12_lies 54 = .ok (.getfield 47, 3) := by decide +kernel
theorem dX12_lies_57 : decode cX12_lies 57 = .ok (.iload_n 3, 1) := by decide +kernel
theorem dX12_lies_58 : decode cX12_lies 58 = .ok (.iconst 1, 1) := by decide +kernel
theorem dX12_lies_59 : decode cX12_lies 59 = .ok (.iadd, 1) := by decide +kernel
theorem dX12_lies_60 : decode cX12_lies 60 = .ok (.iaload, 1) := by decide +kernel
theorem dX12_lies_61 : decode cX12_lies 61 = .ok (.invokevirtual 155, 3) := by decide +kernel
theorem dX12_lies_64 : decode cX12_lies 64 = .ok (.ifCond .eq 7, 3) := by decide +kernel
theorem dX12_lies_67 : decode cX12_lies 67 = .ok (.iconst 0, 1) := by decide +kernel
theorem dX12_lies_68 : decode cX12_lies 68 = .ok (.goto 6, 3) := by decide +kernel
theorem dX12_lies_71 : decode cX12_lies 71 = .ok (.iconst 1, 1) := by decide +kernel
theorem dX12_lies_72 : decode cX12_lies 72 = .ok (.iload_n 2, 1) := by decide +kernel
theorem dX12_lies_73 : decode cX12_lies 73 = .ok (.ishl, 1) := by decide +kernel
theorem dX12_lies_74 : decode cX12_lies 74 = .ok (.ior, 1) := by decide +kernel
theorem dX12_lies_75 : decode cX12_lies 75 = .ok (.istore_n 1, 1) := by decide +kernel
theorem dX12_lies_76 : decode cX12_lies 76 = .ok (.iinc 2 1, 3) := by decide +kernel
theorem dX12_lies_79 : decode cX12_lies 79 = .ok (.goto (-75), 3) := by decide +kernel
theorem dX12_lies_82 : decode cX12_lies 82 = .ok (.iload_n 1, 1) := by decide +kernel
theorem dX12_lies_83 : decode cX12_lies 83 = .ok (.ireturn, 1) := by decide +kernel
theorem dX12_lure_0 : decode cX12_lure 0 = .ok (.iload_n 1, 1) := by decide +kernel
theorem dX12_lure_1 : decode cX12_lure 1 = .ok (.iconst 0, 1) := by decide +kernel
theorem dX12_lure_2 : decode cX12_lure 2 = .ok (.iconst 1, 1) := by decide +kernel
theorem dX12_lure_3 : decode cX12_lure 3 = .ok (.invokestatic 94, 3) := by decide +kernel
theorem dX12_lure_6 : decode cX12_lure 6 = .ok (.ifCond .ne 5, 3) := by decide +kernel
theorem dX12_lure_9 : decode cX12_lure 9 = .ok (.iconst (-1), 1) := by decide +kernel
theorem dX12_lure_10 : decode cX12_lure 10 = .ok (.ireturn, 1) := by decide +kernel
theorem dX12_lure_11 : decode cX12_lure 11 = .ok (.aload_n 0, 1) := by decide +kernel
theorem dX12_lure_12 : decode cX12_lure 12 = .ok (.iconst 0, 1) := by decide +kernel
theorem dX12_lure_13 : decode cX12_lure 13 = .ok (.invokevirtual 200, 3) := by decide +kernel
theorem dX12_lure_16 : decode cX12_lure 16 = .ok (.istore_n 2, 1) := by decide +kernel
theorem dX12_lure_17 : decode cX12_lure 17 = .ok (.bipush (-4), 2) := by decide +kernel
theorem dX12_lure_19 : decode cX12_lure 19 = .ok (.istore_n 3, 1) := by decide +kernel
theorem dX12_lure_20 : decode cX12_lure 20 = .ok (.iconst 0, 1) := by decide +kernel
theorem dX12_lure_21 : decode cX12_lure 21 = .ok (.istore 4, 2) := by decide +kernel
theorem dX12_lure_23 : decode cX12_lure 23 = .ok (.iload 4, 2) := by decide +kernel
theorem dX12_lure_25 : decode cX12_lure 25 = .ok (.aload_n 0, 1) := by decide +kernel
theorem dX12_lure_26 : decode cX12_lure 26 = .ok (.getfield 13, 3) := by decide +kernel
theorem dX12_lure_29 : decode cX12_lure 29 = .ok (.iconst 0, 1) := by decide +kernel
theorem dX12_lure_30 : decode cX12_lure 30 = .ok (.iaload, 1) := by decide +kernel
theorem dX12_lure_31 : decode cX12_lure 31 = .ok (.if_icmp .ge 136, 3) := by decide +kernel
theorem dX12_lure_34 : decode cX12_lure 34 = .ok (.iconst 0, 1) := by decide +kernel
theorem dX12_lure_35 : decode cX12_lure 35 = .ok (.istore 5, 2) := by decide +kernel
theorem dX12_lure_37 : decode cX12_lure 37 = .ok (.iload 5, 2) := by decide +kernel
theorem dX12_lure_39 : decode cX12_lure 39 = .ok (.aload_n 0, 1) := by decide +kernel
theorem dX12_lure_40 : decode cX12_lure 40 = .ok (.getfield 13, 3) := by decide +kernel
theorem dX12_lure_43 : decode cX12_lure 43 = .ok (.iconst 0, 1) := by decide +kernel
theorem dX12_lure_44 : decode cX12_lure 44 = .ok (.iaload, 1) := by decide +kernel
theorem dX12_lure_45 : decode cX12_lure 45 = .ok (.if_icmp .ge 116, 3) := by decide +kernel
theorem dX12_lure_48 : decode cX12_lure 48 = .ok (.iconst 0, 1) := by decide +kernel
theorem dX12_lure_49 : decode cX12_lure 49 = .ok (.istore 6, 2) := by decide +kernel
theorem dX12_lure_51 : decode cX12_lure 51 = .ok (.iload 6, 2) := by decide +kernel
theorem dX12_lure_53 : decode cX12_lure 53 = .ok (.aload_n 0, 1) := by decide +kernel
theorem dX12_lure_54 : decode cX12_lure 54 = .ok (.getfield 13, 3) := by decide +kernel
theorem dX12_lure_57 : decode cX12_lure 57 = .ok (.iconst 0, 1) := by decide +kernel
theorem dX12_lure_58 : decode cX12_lure 58 = .ok (.iaload, 1) := by decide +kernel
theorem dX12_lure_59 : decode cX12_lure 59 = .ok (.if_icmp .ge 96, 3) := by decide +kernel
theorem dX12_lure_62 : decode cX12_lure 62 = .ok (.aload_n 0, 1) := by decide +kernel
theorem dX12_lure_63 : decode cX12_lure 63 = .ok (.getfield 50, 3) := by decide +kernel
theorem dX12_lure_66 : decode cX12_lure 66 = .ok (.bipush 8, 2) := by decide +kernel
theorem dX12_lure_68 : decode cX12_lure 68 = .ok (.iload 4, 2) := by decide +kernel
theorem dX12_lure_70 : decode cX12_lure 70 = .ok (.imul, 1) := by decide +kernel
theorem dX12_lure_71 : decode cX12_lure 71 = .ok (.iload 6, 2) := by decide +kernel
theorem dX12_lure_73 : decode cX12_lure 73 = .ok (.iadd, 1) := by decide +kernel
theorem dX12_lure_74 : decode cX12_lure 74 = .ok (.iaload, 1) := by decide +kernel
theorem dX12_lure_75 : decode cX12_lure 75 = .ok (.sipush 10000, 3) := by decide +kernel
theorem dX12_lure_78 : decode cX12_lure 78 = .ok (.if_icmp .ge 71, 3) := by decide +kernel
theorem dX12_lure_81 : decode cX12_lure 81 = .ok (.aload_n 0, 1) := by decide +kernel
theorem dX12_lure_82 : decode cX12_lure 82 = .ok (.iconst 0, 1) := by decide +kernel
theorem dX12_lure_83 : decode cX12_lure 83 = .ok (.sipush 352, 3) := by decide +kernel
theorem dX12_lure_86 : decode cX12_lure 86 = .ok (.invokevirtual 203, 3) := by decide +kernel
theorem dX12_lure_89 : decode cX12_lure 89 = .ok (.aload_n 0, 1) := by decide +kernel
theorem dX12_lure_90 : decode cX12_lure 90 = .ok (.sipush 352, 3) := by decide +kernel
theorem dX12_lure_93 : decode cX12_lure 93 = .ok (.iload 4, 2) := by decide +kernel
theorem dX12_lure_95 : decode cX12_lure 95 = .ok (.iload 5, 2) := by decide +kernel
theorem dX12_lure_97 : decode cX12_lure 97 = .ok (.iload 6, 2) := by decide +kernel
theorem dX12_lure_99 : decode cX12_lure 99 = .ok (.invokevirtual 209, 3) := by decide +kernel
theorem dX12_lure_102 : decode cX12_lure 102 = .ok (.aload_n 0, 1) := by decide +kernel
theorem dX12_lure_103 : decode cX12_lure 103 = .ok (.sipush 352, 3) := by decide +kernel
theorem dX12_lure_106 : decode cX12_lure 106 = .ok (.invokevirtual 200, 3) := by decide +kernel
theorem dX12_lure_109 : decode cX12_lure 109 = .ok (.istore 7, 2) := by decide +kernel
theorem dX12_lure_111 : decode cX12_lure 111 = .ok (.iload 7, 2) := by decide +kernel
theorem dX12_lure_113 : decode cX12_lure 113 = .ok (.iload_n 2, 1) := by decide +kernel
theorem dX12_lure_114 : decode cX12_lure 114 = .ok (.if_icmp .le 20, 3) := by decide +kernel
theorem dX12_lure_117 : decode cX12_lure 117 = .ok (.bipush 100, 2) := by decide +kernel
theorem dX12_lure_119 : decode cX12_lure 119 = .ok (.iload 4, 2) := by decide +kernel
theorem dX12_lure_121 : decode cX12_lure 121 = .ok (.imul, 1) := by decide +kernel
theorem dX12_lure_122 : decode cX12_lure 122 = .ok (.bipush 10, 2) := by decide +kernel
theorem dX12_lure_124 : decode cX12_lure 124 = .ok (.iload 5, 2) := by decide +kernel
theorem dX12_lure_126 : decode cX12_lure 126 = .ok (.imul, 1) := by decide +kernel
theorem dX12_lure_127 : decode cX12_lure 127 = .ok (.iadd, 1) := by decide +kernel
theorem dX12_lure_128 : decode cX12_lure 128 = .ok (.iload 6, 2) := by decide +kernel
theorem dX12_lure_130 : decode cX12_lure 130 = .ok (.iadd, 1) := by decide +kernel
theorem dX12_lure_131 : decode cX12_lure 131 = .ok (.goto 4, 3) := by decide +kernel
theorem dX12_lure_134 : decode cX12_lure 134 = .ok (.iload_n 3, 1) := by decide +kernel
theorem dX12_lure_135 : decode cX12_lure 135 = .ok (.istore_n 3, 1) := by decide +kernel
theorem dX12_lure_136 : decode cX12_lure 136 = .ok (.iload 7, 2) := by decide +kernel
theorem dX12_lure_138 : decode cX12_lure 138 = .ok (.iload_n 2, 1) := by decide +kernel
theorem dX12_lure_139 : decode cX12_lure 139 = .ok (.if_icmp .le 8, 3) := by decide +kernel
theorem dX12_lure_142 : decode cX12_lure 142 = .ok (.iload 7, 2) := by decide +kernel
theorem dX12_lure_144 : decode cX12_lure 144 = .ok (.goto 4, 3) := by decide +kernel
theorem dX12_lure_147 : decode cX12_lure 147 = .ok (.iload_n 2, 1) := by decide +kernel
theorem dX12_lure_148 : decode cX12_lure 148 = .ok (.istore_n 2, 1) := by decide +kernel
theorem dX12_lure_149 : decode cX12_lure 149 = .ok (.iinc 6 1, 3) := by decide +kernel
theorem dX12_lure_152 : decode cX12_lure 152 = .ok (.goto (-101), 3) := by decide +kernel
theorem dX12_lure_155 : decode cX12_lure 155 = .ok (.iinc 5 1, 3) := by decide +kernel
theorem dX12_lure_158 : decode cX12_lure 158 = .ok (.goto (-121), 3) := by decide +kernel
theorem dX12_lure_161 : decode cX12_lure 161 = .ok (.iinc 4 1, 3) := by decide +kernel
theorem dX12_lure_164 : decode cX12_lure 164 = .ok (.goto (-141), 3) := by decide +kernel
theorem dX12_lure_167 : decode cX12_lure 167 = .ok (.iload_n 3, 1) := by decide +kernel
theorem dX12_lure_168 : decode cX12_lure 168 = .ok (.bipush (-4), 2) := by decide +kernel
theorem dX12_lure_170 : decode cX12_lure 170 = .ok (.if_icmp .eq 7, 3) := by decide +kernel
theorem dX12_lure_173 : decode cX12_lure 173 = .ok (.iload_n 1, 1) := by decide +kernel
theorem dX12_lure_174 : decode cX12_lure 174 = .ok (.ifCond .ne 7, 3) := by decide +kernel
theorem dX12_lure_177 : decode cX12_lure 177 = .ok (.iload_n 3, 1) := by decide +kernel
theorem dX12_lure_178 : decode cX12_lure 178 = .ok (.goto 4, 3) := by decide +kernel
theorem dX12_lure_181 : decode cX12_lure 181 = .ok (.iload_n 2, 1) := by decide +kernel
theorem dX12_lure_182 : decode cX12_lure 182 = .ok (.ireturn, 1) := by decide +kernel
theorem dX12_mend_0 : decode cX12_mend 0 = .ok (.iload_n 1, 1) := by decide +kernel
theorem dX12_mend_1 : decode cX12_mend 1 = .ok (.iconst 0, 1) := by decide +kernel
theorem dX12_mend_2 : decode cX12_mend 2 = .ok (.iconst 1, 1) := by decide +kernel
theorem dX12_mend_3 : decode cX12_mend 3 = .ok (.invokestatic 94, 3) := by decide +kernel
theorem dX12_mend_6 : decode cX12_mend 6 = .ok (.ifCond .ne 5, 3) := by decide +kernel
theorem dX12_mend_9 : decode cX12_mend 9 = .ok (.iconst (-1), 1) := by decide +kernel
theorem dX12_mend_10 : decode cX12_mend 10 = .ok (.ireturn, 1) := by decide +kernel
theorem dX12_mend_11 : decode cX12_mend 11 = .ok (.bipush (-4), 2) := by decide +kernel
theorem dX12_mend_13 : decode cX12_mend 13 = .ok (.istore_n 2, 1) := by decide +kernel
theorem dX12_mend_14 : decode cX12_mend 14 = .ok (.bipush (-4), 2) := by decide +kernel
theorem dX12_mend_16 : decode cX12_mend 16 = .ok (.istore_n 3, 1) := by decide +kernel
theorem dX12_mend_17 : decode cX12_mend 17 = .ok (.iconst 0, 1) := by decide +kernel
theorem dX12_mend_18 : decode cX12_mend 18 = .ok (.istore 4, 2) := by decide +kernel
theorem dX12_mend_20 : decode cX12_mend 20 = .ok (.iload 4, 2) := by decide +kernel
theorem dX12_mend_22 : decode cX12_mend 22 = .ok (.aload_n 0, 1) := by decide +kernel
theorem dX12_mend_23 : decode cX12_mend 23 = .ok (.getfield 47, 3) := by decide +kernel
theorem dX12_mend_26 : decode cX12_mend 26 = .ok (.iconst 0, 1) := by decide +kernel
theorem dX12_mend_27 : decode cX12_mend 27 = .ok (.iaload, 1) := by decide +kernel
theorem dX12_mend_28 : decode cX12_mend 28 = .ok (.if_icmp .ge 53, 3) := by decide +kernel
theorem dX12_mend_31 : decode cX12_mend 31 = .ok (.aload_n 0, 1) := by decide +kernel
theorem dX12_mend_32 : decode cX12_mend 32 = .ok (.iconst 0, 1) := by decide +kernel
theorem dX12_mend_33 : decode cX12_mend 33 = .ok (.sipush 352, 3) := by decide +kernel
theorem dX12_mend_36 : decode cX12_mend 36 = .ok (.invokevirtual 203, 3) := by decide +kernel
theorem dX12_mend_39 : decode cX12_mend 39 = .ok (.aload_n 0, 1) := by decide +kernel
theorem dX12_mend_40 : decode cX12_mend 40 = .ok (.sipush 352, 3) := by decide +kernel
theorem dX12_mend_43 : decode cX12_mend 43 = .ok (.iload 4, 2) := by decide +kernel
theorem dX12_mend_45 : decode cX12_mend 45 = .ok (.invokevirtual 213, 3) := by decide +kernel
theorem dX12_mend_48 : decode cX12_mend 48 = .ok (.aload_n 0, 1) := by decide +kernel
theorem dX12_mend_49 : decode cX12_mend 49 = .ok (.sipush 352, 3) := by decide +kernel
theorem dX12_mend_52 : decode cX12_mend 52 = .ok (.invokevirtual 200, 3) := by decide +kernel
theorem dX12_mend_55 : decode cX12_mend 55 = .ok (.istore 5, 2) := by decide +kernel
theorem dX12_mend_57 : decode cX12_mend 57 = .ok (.iload_n 3, 1) := by decide +kernel
theorem dX12_mend_58 : decode cX12_mend 58 = .ok (.bipush (-4), 2) := by decide +kernel
theorem dX12_mend_60 : decode cX12_mend 60 = .ok (.if_icmp .eq 9, 3) := by decide +kernel
theorem dX12_mend_63 : decode cX12_mend 63 = .ok (.iload 5, 2) := by decide +kernel
theorem dX12_mend_65 : decode cX12_mend 65 = .ok (.iload_n 2, 1) := by decide +kernel
theorem dX12_mend_66 : decode cX12_mend 66 = .ok (.if_icmp .ge 9, 3) := by decide +kernel
theorem dX12_mend_69 : decode cX12_mend 69 = .ok (.iload 4, 2) := by decide +kernel
theorem dX12_mend_71 : decode cX12_mend 71 = .ok (.istore_n 3, 1) := by decide +kernel
theorem dX12_mend_72 : decode cX12_mend 72 = .ok (.iload 5, 2) := by decide +kernel
theorem dX12_mend_74 : decode cX12_mend 74 = .ok (.istore_n 2, 1) := by decide +kernel
theorem dX12_mend_75 : decode cX12_mend 75 = .ok (.iinc 4 1, 3) := by decide +kernel
theorem dX12_mend_78 : decode cX12_mend 78 = .ok (.goto (-58), 3) := by decide +kernel
theorem dX12_mend_81 : decode cX12_mend 81 = .ok (.iload_n 1, 1) := by decide +kernel
theorem dX12_mend_82 : decode cX12_mend 82 = .ok (.ifCond .ne 7, 3) := by decide +kernel
theorem dX12_mend_85 : decode cX12_mend 85 = .ok (.iload_n 3, 1) := by decide +kernel
theorem dX12_mend_86 : decode cX12_mend 86 = .ok (.goto 4, 3) := by decide +kernel
theorem dX12_mend_89 : decode cX12_mend 89 = .ok (.iload_n 2, 1) := by decide +kernel
theorem dX12_mend_90 : decode cX12_mend 90 = .ok (.ireturn, 1) := by decide +kernel
theorem dX12_best_0 : decode cX12_best 0 = .ok (.aload_n 0, 1) := by decide +kernel
theorem dX12_best_1 : decode cX12_best 1 = .ok (.iload_n 1, 1) := by decide +kernel
theorem dX12_best_2 : decode cX12_best 2 = .ok (.invokevirtual 152, 3) := by decide +kernel
theorem dX12_best_5 : decode cX12_best 5 = .ok (.ifCond .eq 12, 3) := by decide +kernel
theorem dX12_best_8 : decode cX12_best 8 = .ok (.iload_n 2, 1) := by decide +kernel
theorem dX12_best_9 : decode cX12_best 9 = .ok (.iconst 0, 1) := by decide +kernel
theorem dX12_best_10 : decode cX12_best 10 = .ok (.iconst 1, 1) := by decide +kernel
theorem dX12_best_11 : decode cX12_best 11 = .ok (.invokestatic 94, 3) := by decide +kernel
theorem dX12_best_14 : decode cX12_best 14 = .ok (.ifCond .ne 5, 3) := by decide +kernel
theorem dX12_best_17 : decode cX12_best 17 = .ok (.iconst (-1), 1) := by decide +kernel
theorem dX12_best_18 : decode cX12_best 18 = .ok (.ireturn, 1) := by decide +kernel
theorem dX12_best_19 : decode cX12_best 19 = .ok (.bipush (-4), 2) := by decide +kernel
theorem dX12_best_21 : decode cX12_best 21 = .ok (.istore_n 3, 1) := by decide +kernel
theorem dX12_best_22 : decode cX12_best 22 = .ok (.bipush (-4), 2) := by decide +kernel
theorem dX12_best_24 : decode cX12_best 24 = .ok (.istore 4, 2) := by decide +kernel
theorem dX12_best_26 : decode cX12_best 26 = .ok (.iconst 0, 1) := by decide +kernel
theorem dX12_best_27 : decode cX12_best 27 = .ok (.istore 5, 2) := by decide +kernel
theorem dX12_best_29 : decode cX12_best 29 = .ok (.iload 5, 2) := by decide +kernel
theorem dX12_best_31 : decode cX12_best 31 = .ok (.aload_n 0, 1) := by decide +kernel
theorem dX12_best_32 : decode cX12_best 32 = .ok (.getfield 13, 3) := by decide +kernel
theorem dX12_best_35 : decode cX12_best 35 = .ok (.iconst 0, 1) := by decide +kernel
theorem dX12_best_36 : decode cX12_best 36 = .ok (.iaload, 1) := by decide +kernel
theorem dX12_best_37 : decode cX12_best 37 = .ok (.if_icmp .ge 58, 3) := by decide +kernel
theorem dX12_best_40 : decode cX12_best 40 = .ok (.aload_n 0, 1) := by decide +kernel
theorem dX12_best_41 : decode cX12_best 41 = .ok (.iconst 0, 1) := by decide +kernel
theorem dX12_best_42 : decode cX12_best 42 = .ok (.aload_n 0, 1) := by decide +kernel
theorem dX12_best_43 : decode cX12_best 43 = .ok (.getfield 32, 3) := by decide +kernel
theorem dX12_best_46 : decode cX12_best 46 = .ok (.iload_n 1, 1) := by decide +kernel
theorem dX12_best_47 : decode cX12_best 47 = .ok (.iaload, 1) := by decide +kernel
theorem dX12_best_48 : decode cX12_best 48 = .ok (.aload_n 0, 1) := by decide +kernel
theorem dX12_best_49 : decode cX12_best 49 = .ok (.getfield 35, 3) := by decide +kernel
theorem dX12_best_52 : decode cX12_best 52 = .ok (.iload_n 1, 1) := by decide +kernel
theorem dX12_best_53 : decode cX12_best 53 = .ok (.iaload, 1) := by decide +kernel
theorem dX12_best_54 : decode cX12_best 54 = .ok (.aload_n 0, 1) := by decide +kernel
theorem dX12_best_55 : decode cX12_best 55 = .ok (.getfield 38, 3) := by decide +kernel
theorem dX12_best_58 : decode cX12_best 58 = .ok (.iload_n 1, 1) := by decide +kernel
theorem dX12_best_59 : decode cX12_best 59 = .ok (.iaload, 1) := by decide +kernel
theorem dX12_best_60 : decode cX12_best 60 = .ok (.iload 5, 2) := by decide +kernel
theorem dX12_best_62 : decode cX12_best 62 = .ok (.invokevirtual 189, 3) := by decide +kernel
theorem dX12_best_65 : decode cX12_best 65 = .ok (.iload 4, 2) := by decide +kernel
theorem dX12_best_67 : decode cX12_best 67 = .ok (.bipush (-4), 2) := by decide +kernel
theorem dX12_best_69 : decode cX12_best 69 = .ok (.if_icmp .eq 11, 3) := by decide +kernel
theorem dX12_best_72 : decode cX12_best 72 = .ok (.aload_n 0, 1) := by decide +kernel
theorem dX12_best_73 : decode cX12_best 73 = .ok (.getfield 179, 3) := by decide +kernel
theorem dX12_best_76 : decode cX12_best 76 = .ok (.iload_n 3, 1) := by decide +kernel
theorem dX12_best_77 : decode cX12_best 77 = .ok (.if_icmp .ge 12, 3) := by decide +kernel
theorem dX12_best_80 : decode cX12_best 80 = .ok (.iload 5, 2) := by decide +kernel
theorem dX12_best_82 : decode cX12_best 82 = .ok (.istore 4, 2) := by decide +kernel
theorem dX12_best_84 : decode cX12_best 84 = .ok (.aload_n 0, 1) := by decide +kernel
theorem dX12_best_85 : decode cX12_best 85 = .ok (.getfield 179, 3) := by decide +kernel
theorem dX12_best_88 : decode cX12_best 88 = .ok (.istore_n 3, 1) := by decide +kernel
theorem dX12_best_89 : decode cX12_best 89 = .ok (.iinc 5 1, 3) := by decide +kernel
theorem dX12_best_92 : decode cX12_best 92 = .ok (.goto (-63), 3) := by decide +kernel
theorem dX12_best_95 : decode cX12_best 95 = .ok (.iload_n 2, 1) := by decide +kernel
theorem dX12_best_96 : decode cX12_best 96 = .ok (.ifCond .ne 8, 3) := by decide +kernel
theorem dX12_best_99 : decode cX12_best 99 = .ok (.iload 4, 2) := by decide +kernel
theorem dX12_best_101 : decode cX12_best 101 = .ok (.goto 4, 3) := by decide +kernel
theorem dX12_best_104 : decode cX12_best 104 = .ok (.iload_n 3, 1) := by decide +kernel
theorem dX12_best_105 : decode cX12_best 105 = .ok (.ireturn, 1) := by decide +kernel
theorem dX12_watch_0 : decode cX12_watch 0 = .ok (.iload_n 1, 1) := by decide +kernel
theorem dX12_watch_1 : decode cX12_watch 1 = .ok (.iconst 0, 1) := by decide +kernel
theorem dX12_watch_2 : decode cX12_watch 2 = .ok (.iconst 1, 1) := by decide +kernel
theorem dX12_watch_3 : decode cX12_watch 3 = .ok (.invokestatic 94, 3) := by decide +kernel
theorem dX12_watch_6 : decode cX12_watch 6 = .ok (.ifCond .ne 5, 3) := by decide +kernel
theorem dX12_watch_9 : decode cX12_watch 9 = .ok (.iconst (-1), 1) := by decide +kernel
theorem dX12_watch_10 : decode cX12_watch 10 = .ok (.ireturn, 1) := by decide +kernel
theorem dX12_watch_11 : decode cX12_watch 11 = .ok (.iconst 0, 1) := by decide +kernel
theorem dX12_watch_12 : decode cX12_watch 12 = .ok (.istore_n 2, 1) := by decide +kernel
theorem dX12_watch_13 : decode cX12_watch 13 = .ok (.iload_n 2, 1) := by decide +kernel
theorem dX12_watch_14 : decode cX12_watch 14 = .ok (.bipush 8, 2) := by decide +kernel
theorem dX12_watch_16 : decode cX12_watch 16 = .ok (.if_icmp .ge 16, 3) := by decide +kernel
theorem dX12_watch_19 : decode cX12_watch 19 = .ok (.aload_n 0, 1) := by decide +kernel
theorem dX12_watch_20 : decode cX12_watch 20 = .ok (.getfield 59, 3) := by decide +kernel
theorem dX12_watch_23 : decode cX12_watch 23 = .ok (.iload_n 2, 1) := by decide +kernel
theorem dX12_watch_24 : decode cX12_watch 24 = .ok (.iconst 0, 1) := by decide +kernel
theorem dX12_watch_25 : decode cX12_watch 25 = .ok (.iastore, 1) := by decide +kernel
theorem dX12_watch_26 : decode cX12_watch 26 = .ok (.iinc 2 1, 3) := by decide +kernel
theorem dX12_watch_29 : decode cX12_watch 29 = .ok (.goto (-16), 3) := by decide +kernel
theorem dX12_watch_32 : decode cX12_watch 32 = .ok (.aload_n 0, 1) := by decide +kernel
theorem dX12_watch_33 : decode cX12_watch 33 = .ok (.iconst 0, 1) := by decide +kernel
theorem dX12_watch_34 : decode cX12_watch 34 = .ok (.invokevirtual 200, 3) := by decide +kernel
theorem dX12_watch_37 : decode cX12_watch 37 = .ok (.pop, 1) := by decide +kernel
theorem dX12_watch_38 : decode cX12_watch 38 = .ok (.iconst 0, 1) := by decide +kernel
theorem dX12_watch_39 : decode cX12_watch 39 = .ok (.istore_n 2, 1) := by decide +kernel
theorem dX12_watch_40 : decode cX12_watch 40 = .ok (.iconst 1, 1) := by decide +kernel
theorem dX12_watch_41 : decode cX12_watch 41 = .ok (.istore_n 3, 1) := by decide +kernel
theorem dX12_watch_42 : decode cX12_watch 42 = .ok (.iload_n 3, 1) := by decide +kernel
theorem dX12_watch_43 : decode cX12_watch 43 = .ok (.aload_n 0, 1) := by decide +kernel
theorem dX12_watch_44 : decode cX12_watch 44 = .ok (.getfield 13, 3) := by decide +kernel
theorem dX12_watch_47 : decode cX12_watch 47 = .ok (.iconst 0, 1) := by decide +kernel
theorem dX12_watch_48 : decode cX12_watch 48 = .ok (.iaload, 1) := by decide +kernel
theorem dX12_watch_49 : decode cX12_watch 49 = .ok (.if_icmp .ge 30, 3) := by decide +kernel
theorem dX12_watch_52 : decode cX12_watch 52 = .ok (.aload_n 0, 1) := by decide +kernel
theorem dX12_watch_53 : decode cX12_watch 53 = .ok (.getfield 59, 3) := by decide +kernel
theorem dX12_watch_56 : decode cX12_watch 56 = .ok (.iload_n 3, 1) := by decide +kernel
theorem dX12_watch_57 : decode cX12_watch 57 = .ok (.iaload, 1) := by decide +kernel
theorem dX12_watch_58 : decode cX12_watch 58 = .ok (.aload_n 0, 1) := by decide +kernel
theorem dX12_watch_59 : decode cX12_watch 59 = .ok (.getfield 59, 3) := by decide +kernel
theorem dX12_watch_62 : decode cX12_watch 62 = .ok (.iload_n 2, 1) := by decide +kernel
theorem dX12_watch_63 : decode cX12_watch 63 = .ok (.iaload, 1) := by decide +kernel
theorem dX12_watch_64 : decode cX12_watch 64 = .ok (.if_icmp .le 7, 3) := by decide +kernel
theorem dX12_watch_67 : decode cX12_watch 67 = .ok (.iload_n 3, 1) := by decide +kernel
theorem dX12_watch_68 : decode cX12_watch 68 = .ok (.goto 4, 3) := by decide +kernel
theorem dX12_watch_71 : decode cX12_watch 71 = .ok (.iload_n 2, 1) := by decide +kernel
theorem dX12_watch_72 : decode cX12_watch 72 = .ok (.istore_n 2, 1) := by decide +kernel
theorem dX12_watch_73 : decode cX12_watch 73 = .ok (.iinc 3 1, 3) := by decide +kernel
theorem dX12_watch_76 : decode cX12_watch 76 = .ok (.goto (-34), 3) := by decide +kernel
theorem dX12_watch_79 : decode cX12_watch 79 = .ok (.iload_n 1, 1) := by decide +kernel
theorem dX12_watch_80 : decode cX12_watch 80 = .ok (.ifCond .ne 7, 3) := by decide +kernel
theorem dX12_watch_83 : decode cX12_watch 83 = .ok (.iload_n 2, 1) := by decide +kernel
theorem dX12_watch_84 : decode cX12_watch 84 = .ok (.goto 9, 3) := by decide +kernel
theorem dX12_watch_87 : decode cX12_watch 87 = .ok (.aload_n 0, 1) := by decide +kernel
theorem dX12_watch_88 : decode cX12_watch 88 = .ok (.getfield 59, 3) := by decide +kernel
theorem dX12_watch_91 : decode cX12_watch 91 = .ok (.iload_n 2, 1) := by decide +kernel
theorem dX12_watch_92 : decode cX12_watch 92 = .ok (.iaload, 1) := by decide +kernel
theorem dX12_watch_93 : decode cX12_watch 93 = .ok (.ireturn, 1) := by decide +kernel
theorem dX12_moreWithout_0 : decode cX12_moreWithout 0 = .ok (.aload_n 0, 1) := by decide +kernel
theorem dX12_moreWithout_1 : decode cX12_moreWithout 1 = .ok (.iload_n 1, 1) := by decide +kernel
theorem dX12_moreWithout_2 : decode cX12_moreWithout 2 = .ok (.invokevirtual 138, 3) := by decide +kernel
theorem dX12_moreWithout_5 : decode cX12_moreWithout 5 = .ok (.iconst 0, 1) := by decide +kernel
theorem dX12_moreWithout_6 : decode cX12_moreWithout 6 = .ok (.istore_n 2, 1) := by decide +kernel
theorem dX12_moreWithout_7 : decode cX12_moreWithout 7 = .ok (.iconst 0, 1) := by decide +kernel
theorem dX12_moreWithout_8 : decode cX12_moreWithout 8 = .ok (.istore_n 3, 1) := by decide +kernel
theorem dX12_moreWithout_9 : decode cX12_moreWithout 9 = .ok (.iload_n 3, 1) := by decide +kernel
theorem dX12_moreWithout_10 : decode cX12_moreWithout 10 = .ok (.aload_n 0, 1) := by decide +kernel
theorem dX12_moreWithout_11 : decode cX12_moreWithout 11 = .ok (.getfield 29, 3) := by decide +kernel
theorem dX12_moreWithout_14 : decode cX12_moreWithout 14 = .ok (.iconst 0, 1) := by decide +kernel
theorem dX12_moreWithout_15 : decode cX12_moreWithout 15 = .ok (.iaload, 1) := by decide +kernel
theorem dX12_moreWithout_16 : decode cX12_moreWithout 16 = .ok (.if_icmp .ge 76, 3) := by decide +kernel
theorem dX12_moreWithout_19 : decode cX12_moreWithout 19 = .ok (.aload_n 0, 1) := by decide +kernel
theorem dX12_moreWithout_20 : decode cX12_moreWithout 20 = .ok (.getfield 53, 3) := by decide +kernel
theorem dX12_moreWithout_23 : decode cX12_moreWithout 23 = .ok (.bipush 8, 2) := by decide +kernel
theorem dX12_moreWithout_25 : decode cX12_moreWithout 25 = .ok (.aload_n 0, 1) := by decide +kernel
theorem dX12_moreWithout_26 : decode cX12_moreWithout 26 = .ok (.getfield 35, 3) := by decide +kernel
theorem dX12_moreWithout_29 : decode cX12_moreWithout 29 = .ok (.iload_n 3, 1) := by decide +kernel
theorem dX12_moreWithout_30 : decode cX12_moreWithout 30 = .ok (.iaload, 1) := by decide +kernel
theorem dX12_moreWithout_31 : decode cX12_moreWithout 31 = .ok (.imul, 1) := by decide +kernel
theorem dX12_moreWithout_32 : decode cX12_moreWithout 32 = .ok (.aload_n 0, 1) := by decide +kernel
theorem dX12_moreWithout_33 : decode cX12_moreWithout 33 = .ok (.getfield 38, 3) := by decide +kernel
theorem dX12_moreWithout_36 : decode cX12_moreWithout 36 = .ok (.iload_n 3, 1) := by decide +kernel
theorem dX12_moreWithout_37 : decode cX12_moreWithout 37 = .ok (.iaload, 1) := by decide +kernel
theorem dX12_moreWithout_38 : decode cX12_moreWithout 38 = .ok (.iadd, 1) := by decide +kernel
theorem dX12_moreWithout_39 : decode cX12_moreWithout 39 = .ok (.iaload, 1) := by decide +kernel
theorem dX12_moreWithout_40 : decode cX12_moreWithout 40 = .ok (.istore 4, 2) := by decide +kernel
theorem dX12_moreWithout_42 : decode cX12_moreWithout 42 = .ok (.iload_n 2, 1) := by decide +kernel
theorem dX12_moreWithout_43 : decode cX12_moreWithout 43 = .ok (.iload 4, 2) := by decide +kernel
theorem dX12_moreWithout_45 : decode cX12_moreWithout 45 = .ok (.sipush 10000, 3) := by decide +kernel
theorem dX12_moreWithout_48 : decode cX12_moreWithout 48 = .ok (.if_icmp .lt 9, 3) := by decide +kernel
theorem dX12_moreWithout_51 : decode cX12_moreWithout 51 = .ok (.sipush 200, 3) := by decide +kernel
theorem dX12_moreWithout_54 : decode cX12_moreWithout 54 = .ok (.goto 5, 3) := by decide +kernel
theorem dX12_moreWithout_57 : decode cX12_moreWithout 57 = .ok (.iload 4, 2) := by decide +kernel
theorem dX12_moreWithout_59 : decode cX12_moreWithout 59 = .ok (.aload_n 0, 1) := by decide +kernel
theorem dX12_moreWithout_60 : decode cX12_moreWithout 60 = .ok (.getfield 62, 3) := by decide +kernel
theorem dX12_moreWithout_63 : decode cX12_moreWithout 63 = .ok (.iload_n 3, 1) := by decide +kernel
theorem dX12_moreWithout_64 : decode cX12_moreWithout 64 = .ok (.iaload, 1) := by decide +kernel
theorem dX12_moreWithout_65 : decode cX12_moreWithout 65 = .ok (.sipush 10000, 3) := by decide +kernel
theorem dX12_moreWithout_68 : decode cX12_moreWithout 68 = .ok (.if_icmp .lt 9, 3) := by decide +kernel
theorem dX12_moreWithout_71 : decode cX12_moreWithout 71 = .ok (.sipush 200, 3) := by decide +kernel
theorem dX12_moreWithout_74 : decode cX12_moreWithout 74 = .ok (.goto 9, 3) := by decide +kernel
theorem dX12_moreWithout_77 : decode cX12_moreWithout 77 = .ok (.aload_n 0, 1) := by decide +kernel
theorem dX12_moreWithout_78 : decode cX12_moreWithout 78 = .ok (.getfield 62, 3) := by decide +kernel
theorem dX12_moreWithout_81 : decode cX12_moreWithout 81 = .ok (.iload_n 3, 1) := by decide +kernel
theorem dX12_moreWithout_82 : decode cX12_moreWithout 82 = .ok (.iaload, 1) := by decide +kernel
theorem dX12_moreWithout_83 : decode cX12_moreWithout 83 = .ok (.isub, 1) := by decide +kernel
theorem dX12_moreWithout_84 : decode cX12_moreWithout 84 = .ok (.iadd, 1) := by decide +kernel
theorem dX12_moreWithout_85 : decode cX12_moreWithout 85 = .ok (.istore_n 2, 1) := by decide +kernel
theorem dX12_moreWithout_86 : decode cX12_moreWithout 86 = .ok (.iinc 3 1, 3) := by decide +kernel
theorem dX12_moreWithout_89 : decode cX12_moreWithout 89 = .ok (.goto (-80), 3) := by decide +kernel
theorem dX12_moreWithout_92 : decode cX12_moreWithout 92 = .ok (.iload_n 2, 1) := by decide +kernel
theorem dX12_moreWithout_93 : decode cX12_moreWithout 93 = .ok (.ireturn, 1) := by decide +kernel
theorem dX12_missed_0 : decode cX12_missed 0 = .ok (.iload_n 1, 1) := by decide +kernel
theorem dX12_missed_1 : decode cX12_missed 1 = .ok (.iconst 0, 1) := by decide +kernel
theorem dX12_missed_2 : decode cX12_missed 2 = .ok (.iconst 1, 1) := by decide +kernel
theorem dX12_missed_3 : decode cX12_missed 3 = .ok (.invokestatic 94, 3) := by decide +kernel
theorem dX12_missed_6 : decode cX12_missed 6 = .ok (.ifCond .ne 5, 3) := by decide +kernel
theorem dX12_missed_9 : decode cX12_missed 9 = .ok (.iconst (-1), 1) := by decide +kernel
theorem dX12_missed_10 : decode cX12_missed 10 = .ok (.ireturn, 1) := by decide +kernel
theorem dX12_missed_11 : decode cX12_missed 11 = .ok (.iconst 0, 1) := by decide +kernel
theorem dX12_missed_12 : decode cX12_missed 12 = .ok (.istore_n 2, 1) := by decide +kernel
theorem dX12_missed_13 : decode cX12_missed 13 = .ok (.iload_n 2, 1) := by decide +kernel
theorem dX12_missed_14 : decode cX12_missed 14 = .ok (.aload_n 0, 1) := by decide +kernel
theorem dX12_missed_15 : decode cX12_missed 15 = .ok (.getfield 29, 3) := by decide +kernel
theorem dX12_missed_18 : decode cX12_missed 18 = .ok (.iconst 0, 1) := by decide +kernel
theorem dX12_missed_19 : decode cX12_missed 19 = .ok (.iaload, 1) := by decide +kernel
theorem dX12_missed_20 : decode cX12_missed 20 = .ok (.if_icmp .ge 36, 3) := by decide +kernel
theorem dX12_missed_23 : decode cX12_missed 23 = .ok (.aload_n 0, 1) := by decide +kernel
theorem dX12_missed_24 : decode cX12_missed 24 = .ok (.getfield 62, 3) := by decide +kernel
theorem dX12_missed_27 : decode cX12_missed 27 = .ok (.iload_n 2, 1) := by decide +kernel
theorem dX12_missed_28 : decode cX12_missed 28 = .ok (.aload_n 0, 1) := by decide +kernel
theorem dX12_missed_29 : decode cX12_missed 29 = .ok (.getfield 53, 3) := by decide +kernel
theorem dX12_missed_32 : decode cX12_missed 32 = .ok (.bipush 8, 2) := by decide +kernel
theorem dX12_missed_34 : decode cX12_missed 34 = .ok (.aload_n 0, 1) := by decide +kernel
theorem dX12_missed_35 : decode cX12_missed 35 = .ok (.getfield 35, 3) := by decide +kernel
theorem dX12_missed_38 : decode cX12_missed 38 = .ok (.iload_n 2, 1) := by decide +kernel
theorem dX12_missed_39 : decode cX12_missed 39 = .ok (.iaload, 1) := by decide +kernel
theorem dX12_missed_40 : decode cX12_missed 40 = .ok (.imul, 1) := by decide +kernel
theorem dX12_missed_41 : decode cX12_missed 41 = .ok (.aload_n 0, 1) := by decide +kernel
theorem dX12_missed_42 : decode cX12_missed 42 = .ok (.getfield 38, 3) := by decide +kernel
theorem dX12_missed_45 : decode cX12_missed 45 = .ok (.iload_n 2, 1) := by decide +kernel
theorem dX12_missed_46 : decode cX12_missed 46 = .ok (.iaload, 1) := by decide +kernel
theorem dX12_missed_47 : decode cX12_missed 47 = .ok (.iadd, 1) := by decide +kernel
theorem dX12_missed_48 : decode cX12_missed 48 = .ok (.iaload, 1) := by decide +kernel
theorem dX12_missed_49 : decode cX12_missed 49 = .ok (.iastore, 1) := by decide +kernel
theorem dX12_missed_50 : decode cX12_missed 50 = .ok (.iinc 2 1, 3) := by decide +kernel
theorem dX12_missed_53 : decode cX12_missed 53 = .ok (.goto (-40), 3) := by decide +kernel
theorem dX12_missed_56 : decode cX12_missed 56 = .ok (.bipush (-4), 2) := by decide +kernel
theorem dX12_missed_58 : decode cX12_missed 58 = .ok (.istore_n 2, 1) := by decide +kernel
theorem dX12_missed_59 : decode cX12_missed 59 = .ok (.bipush (-4), 2) := by decide +kernel
theorem dX12_missed_61 : decode cX12_missed 61 = .ok (.istore_n 3, 1) := by decide +kernel
theorem dX12_missed_62 : decode cX12_missed 62 = .ok (.iconst 0, 1) := by decide +kernel
theorem dX12_missed_63 : decode cX12_missed 63 = .ok (.istore 4, 2) := by decide +kernel
theorem dX12_missed_65 : decode cX12_missed 65 = .ok (.iload 4, 2) := by decide +kernel
theorem dX12_missed_67 : decode cX12_missed 67 = .ok (.aload_n 0, 1) := by decide +kernel
theorem dX12_missed_68 : decode cX12_missed 68 = .ok (.getfield 17, 3) := by decide +kernel
theorem dX12_missed_71 : decode cX12_missed 71 = .ok (.iconst 0, 1) := by decide +kernel
theorem dX12_missed_72 : decode cX12_missed 72 = .ok (.iaload, 1) := by decide +kernel
theorem dX12_missed_73 : decode cX12_missed 73 = .ok (.if_icmp .ge 35, 3) := by decide +kernel
theorem dX12_missed_76 : decode cX12_missed 76 = .ok (.aload_n 0, 1) := by decide +kernel
theorem dX12_missed_77 : decode cX12_missed 77 = .ok (.iload 4, 2) := by decide +kernel
theorem dX12_missed_79 : decode cX12_missed 79 = .ok (.invokevirtual 216, 3) := by decide +kernel
theorem dX12_missed_82 : decode cX12_missed 82 = .ok (.istore 5, 2) := by decide +kernel
theorem dX12_missed_84 : decode cX12_missed 84 = .ok (.iload_n 2, 1) := by decide +kernel
theorem dX12_missed_85 : decode cX12_missed 85 = .ok (.bipush (-4), 2) := by decide +kernel
theorem dX12_missed_87 : decode cX12_missed 87 = .ok (.if_icmp .eq 9, 3) := by decide +kernel
theorem dX12_missed_90 : decode cX12_missed 90 = .ok (.iload 5, 2) := by decide +kernel
theorem dX12_missed_92 : decode cX12_missed 92 = .ok (.iload_n 3, 1) := by decide +kernel
theorem dX12_missed_93 : decode cX12_missed 93 = .ok (.if_icmp .le 9, 3) := by decide +kernel
theorem dX12_missed_96 : decode cX12_missed 96 = .ok (.iload 4, 2) := by decide +kernel
theorem dX12_missed_98 : decode cX12_missed 98 = .ok (.istore_n 2, 1) := by decide +kernel
theorem dX12_missed_99 : decode cX12_missed 99 = .ok (.iload 5, 2) := by decide +kernel
theorem dX12_missed_101 : decode cX12_missed 101 = .ok (.istore_n 3, 1) := by decide +kernel
theorem dX12_missed_102 : decode cX12_missed 102 = .ok (.iinc 4 1, 3) := by decide +kernel
theorem dX12_missed_105 : decode cX12_missed 105 = .ok (.goto (-40), 3) := by decide +kernel
theorem dX12_missed_108 : decode cX12_missed 108 = .ok (.aload_n 0, 1) := by decide +kernel
theorem dX12_missed_109 : decode cX12_missed 109 = .ok (.bipush (-4), 2) := by decide +kernel
theorem dX12_missed_111 : decode cX12_missed 111 = .ok (.invokevirtual 138, 3) := by decide +kernel
theorem dX12_missed_114 : decode cX12_missed 114 = .ok (.iload_n 1, 1) := by decide +kernel
theorem dX12_missed_115 : decode cX12_missed 115 = .ok (.ifCond .ne 7, 3) := by decide +kernel
theorem dX12_missed_118 : decode cX12_missed 118 = .ok (.iload_n 2, 1) := by decide +kernel
theorem dX12_missed_119 : decode cX12_missed 119 = .ok (.goto 4, 3) := by decide +kernel
theorem dX12_missed_122 : decode cX12_missed 122 = .ok (.iload_n 3, 1) := by decide +kernel
theorem dX12_missed_123 : decode cX12_missed 123 = .ok (.ireturn, 1) := by decide +kernel
theorem dX12_seen_0 : decode cX12_seen 0 = .ok (.aload_n 0, 1) := by decide +kernel
theorem dX12_seen_1 : decode cX12_seen 1 = .ok (.iload_n 1, 1) := by decide +kernel
theorem dX12_seen_2 : decode cX12_seen 2 = .ok (.invokevirtual 152, 3) := by decide +kernel
theorem dX12_seen_5 : decode cX12_seen 5 = .ok (.ifCond .eq 21, 3) := by decide +kernel
theorem dX12_seen_8 : decode cX12_seen 8 = .ok (.aload_n 0, 1) := by decide +kernel
theorem dX12_seen_9 : decode cX12_seen 9 = .ok (.iload_n 2, 1) := by decide +kernel
theorem dX12_seen_10 : decode cX12_seen 10 = .ok (.invokevirtual 145, 3) := by decide +kernel
theorem dX12_seen_13 : decode cX12_seen 13 = .ok (.ifCond .eq 13, 3) := by decide +kernel
theorem dX12_seen_16 : decode cX12_seen 16 = .ok (.iload_n 3, 1) := by decide +kernel
theorem dX12_seen_17 : decode cX12_seen 17 = .ok (.iconst 0, 1) := by decide +kernel
theorem dX12_seen_18 : decode cX12_seen 18 = .ok (.bipush 30, 2) := by decide +kernel
theorem dX12_seen_20 : decode cX12_seen 20 = .ok (.invokestatic 94, 3) := by decide +kernel
theorem dX12_seen_23 : decode cX12_seen 23 = .ok (.ifCond .ne 5, 3) := by decide +kernel
theorem dX12_seen_26 : decode cX12_seen 26 = .ok (.iconst (-1), 1) := by decide +kernel
theorem dX12_seen_27 : decode cX12_seen 27 = .ok (.ireturn, 1) := by decide +kernel
theorem dX12_seen_28 : decode cX12_seen 28 = .ok (.aload_n 0, 1) := by decide +kernel
theorem dX12_seen_29 : decode cX12_seen 29 = .ok (.getfield 135, 3) := by decide +kernel
theorem dX12_seen_32 : decode cX12_seen 32 = .ok (.bipush 8, 2) := by decide +kernel
theorem dX12_seen_34 : decode cX12_seen 34 = .ok (.if_icmp .ne 6, 3) := by decide +kernel
theorem dX12_seen_37 : decode cX12_seen 37 = .ok (.bipush (-3), 2) := by decide +kernel
theorem dX12_seen_39 : decode cX12_seen 39 = .ok (.ireturn, 1) := by decide +kernel
theorem dX12_seen_40 : decode cX12_seen 40 = .ok (.aload_n 0, 1) := by decide +kernel
theorem dX12_seen_41 : decode cX12_seen 41 = .ok (.getfield 65, 3) := by decide +kernel
theorem dX12_seen_44 : decode cX12_seen 44 = .ok (.aload_n 0, 1) := by decide +kernel
theorem dX12_seen_45 : decode cX12_seen 45 = .ok (.getfield 135, 3) := by decide +kernel
theorem dX12_seen_48 : decode cX12_seen 48 = .ok (.iload_n 1, 1) := by decide +kernel
theorem dX12_seen_49 : decode cX12_seen 49 = .ok (.iastore, 1) := by decide +kernel
theorem dX12_seen_50 : decode cX12_seen 50 = .ok (.aload_n 0, 1) := by decide +kernel
theorem dX12_seen_51 : decode cX12_seen 51 = .ok (.getfield 68, 3) := by decide +kernel
theorem dX12_seen_54 : decode cX12_seen 54 = .ok (.aload_n 0, 1) := by decide +kernel
theorem dX12_seen_55 : decode cX12_seen 55 = .ok (.getfield 135, 3) := by decide +kernel
theorem dX12_seen_58 : decode cX12_seen 58 = .ok (.iload_n 2, 1) := by decide +kernel
theorem dX12_seen_59 : decode cX12_seen 59 = .ok (.iastore, 1) := by decide +kernel
theorem dX12_seen_60 : decode cX12_seen 60 = .ok (.aload_n 0, 1) := by decide +kernel
theorem dX12_seen_61 : decode cX12_seen 61 = .ok (.getfield 71, 3) := by decide +kernel
theorem dX12_seen_64 : decode cX12_seen 64 = .ok (.aload_n 0, 1) := by decide +kernel
theorem dX12_seen_65 : decode cX12_seen 65 = .ok (.getfield 135, 3) := by decide +kernel
theorem dX12_seen_68 : decode cX12_seen 68 = .ok (.iload_n 3, 1) := by decide +kernel
theorem dX12_seen_69 : decode cX12_seen 69 = .ok (.iastore, 1) := by decide +kernel
theorem dX12_seen_70 : decode cX12_seen 70 = .ok (.aload_n 0, 1) := by decide +kernel
theorem dX12_seen_71 : decode cX12_seen 71 = .ok (.dup, 1) := by decide +kernel
theorem dX12_seen_72 : decode cX12_seen 72 = .ok (.getfield 135, 3) := by decide +kernel
theorem dX12_seen_75 : decode cX12_seen 75 = .ok (.iconst 1, 1) := by decide +kernel
theorem dX12_seen_76 : decode cX12_seen 76 = .ok (.iadd, 1) := by decide +kernel
theorem dX12_seen_77 : decode cX12_seen 77 = .ok (.putfield 135, 3) := by decide +kernel
theorem dX12_seen_80 : decode cX12_seen 80 = .ok (.aload_n 0, 1) := by decide +kernel
theorem dX12_seen_81 : decode cX12_seen 81 = .ok (.getfield 135, 3) := by decide +kernel
theorem dX12_seen_84 : decode cX12_seen 84 = .ok (.ireturn, 1) := by decide +kernel
theorem dX12_forget_0 : decode cX12_forget 0 = .ok (.aload_n 0, 1) := by decide +kernel
theorem dX12_forget_1 : decode cX12_forget 1 = .ok (.getfield 135, 3) := by decide +kernel
theorem dX12_forget_4 : decode cX12_forget 4 = .ok (.istore_n 1, 1) := by decide +kernel
theorem dX12_forget_5 : decode cX12_forget 5 = .ok (.aload_n 0, 1) := by decide +kernel
theorem dX12_forget_6 : decode cX12_forget 6 = .ok (.iconst 0, 1) := by decide +kernel
theorem dX12_forget_7 : decode cX12_forget 7 = .ok (.putfield 135, 3) := by decide +kernel
theorem dX12_forget_10 : decode cX12_forget 10 = .ok (.iload_n 1, 1) := by decide +kernel
theorem dX12_forget_11 : decode cX12_forget 11 = .ok (.ireturn, 1) := by decide +kernel
theorem dX12_kinds_0 : decode cX12_kinds 0 = .ok (.aload_n 0, 1) := by decide +kernel
theorem dX12_kinds_1 : decode cX12_kinds 1 = .ok (.iload_n 1, 1) := by decide +kernel
theorem dX12_kinds_2 : decode cX12_kinds 2 = .ok (.invokevirtual 152, 3) := by decide +kernel
theorem dX12_kinds_5 : decode cX12_kinds 5 = .ok (.ifCond .ne 5, 3) := by decide +kernel
theorem dX12_kinds_8 : decode cX12_kinds 8 = .ok (.iconst (-1), 1) := by decide +kernel
theorem dX12_kinds_9 : decode cX12_kinds 9 = .ok (.ireturn, 1) := by decide +kernel
theorem dX12_kinds_10 : decode cX12_kinds 10 = .ok (.iconst 0, 1) := by decide +kernel
theorem dX12_kinds_11 : decode cX12_kinds 11 = .ok (.istore_n 2, 1) := by decide +kernel
theorem dX12_kinds_12 : decode cX12_kinds 12 = .ok (.iconst 0, 1) := by decide +kernel
theorem dX12_kinds_13 : decode cX12_kinds 13 = .ok (.istore_n 3, 1) := by decide +kernel
theorem dX12_kinds_14 : decode cX12_kinds 14 = .ok (.iload_n 3, 1) := by decide +kernel
theorem dX12_kinds_15 : decode cX12_kinds 15 = .ok (.iconst 4, 1) := by decide +kernel
theorem dX12_kinds_16 : decode cX12_kinds 16 = .ok (.if_icmp .ge 114, 3) := by decide +kernel
theorem dX12_kinds_19 : decode cX12_kinds 19 = .ok (.aload_n 0, 1) := by decide +kernel
theorem dX12_kinds_20 : decode cX12_kinds 20 = .ok (.iconst 0, 1) := by decide +kernel
theorem dX12_kinds_21 : decode cX12_kinds 21 = .ok (.iload_n 3, 1) := by decide +kernel
theorem dX12_kinds_22 : decode cX12_kinds 22 = .ok (.aload_n 0, 1) := by decide +kernel
theorem dX12_kinds_23 : decode cX12_kinds 23 = .ok (.getfield 35, 3) := by decide +kernel
theorem dX12_kinds_26 : decode cX12_kinds 26 = .ok (.iload_n 1, 1) := by decide +kernel
theorem dX12_kinds_27 : decode cX12_kinds 27 = .ok (.iaload, 1) := by decide +kernel
theorem dX12_kinds_28 : decode cX12_kinds 28 = .ok (.aload_n 0, 1) := by decide +kernel
theorem dX12_kinds_29 : decode cX12_kinds 29 = .ok (.getfield 38, 3) := by decide +kernel
theorem dX12_kinds_32 : decode cX12_kinds 32 = .ok (.iload_n 1, 1) := by decide +kernel
theorem dX12_kinds_33 : decode cX12_kinds 33 = .ok (.iaload, 1) := by decide +kernel
theorem dX12_kinds_34 : decode cX12_kinds 34 = .ok (.aload_n 0, 1) := by decide +kernel
theorem dX12_kinds_35 : decode cX12_kinds 35 = .ok (.getfield 38, 3) := by decide +kernel
theorem dX12_kinds_38 : decode cX12_kinds 38 = .ok (.iload_n 1, 1) := by decide +kernel
theorem dX12_kinds_39 : decode cX12_kinds 39 = .ok (.iaload, 1) := by decide +kernel
theorem dX12_kinds_40 : decode cX12_kinds 40 = .ok (.invokevirtual 189, 3) := by decide +kernel
theorem dX12_kinds_43 : decode cX12_kinds 43 = .ok (.iconst 1, 1) := by decide +kernel
theorem dX12_kinds_44 : decode cX12_kinds 44 = .ok (.istore 4, 2) := by decide +kernel
theorem dX12_kinds_46 : decode cX12_kinds 46 = .ok (.iconst 0, 1) := by decide +kernel
theorem dX12_kinds_47 : decode cX12_kinds 47 = .ok (.istore 5, 2) := by decide +kernel
theorem dX12_kinds_49 : decode cX12_kinds 49 = .ok (.iload 5, 2) := by decide +kernel
theorem dX12_kinds_51 : decode cX12_kinds 51 = .ok (.aload_n 0, 1) := by decide +kernel
theorem dX12_kinds_52 : decode cX12_kinds 52 = .ok (.getfield 135, 3) := by decide +kernel
theorem dX12_kinds_55 : decode cX12_kinds 55 = .ok (.if_icmp .ge 54, 3) := by decide +kernel
theorem dX12_kinds_58 : decode cX12_kinds 58 = .ok (.iload 4, 2) := by decide +kernel
theorem dX12_kinds_60 : decode cX12_kinds 60 = .ok (.ifCond .eq 40, 3) := by decide +kernel
theorem dX12_kinds_63 : decode cX12_kinds 63 = .ok (.aload_n 0, 1) := by decide +kernel
theorem dX12_kinds_64 : decode cX12_kinds 64 = .ok (.getfield 65, 3) := by decide +kernel
theorem dX12_kinds_67 : decode cX12_kinds 67 = .ok (.iload 5, 2) := by decide +kernel
theorem dX12_kinds_69 : decode cX12_kinds 69 = .ok (.iaload, 1) := by decide +kernel
theorem dX12_kinds_70 : decode cX12_kinds 70 = .ok (.iload_n 1, 1) := by decide +kernel
theorem dX12_kinds_71 : decode cX12_kinds 71 = .ok (.if_icmp .ne 25, 3) := by decide +kernel
theorem dX12_kinds_74 : decode cX12_kinds 74 = .ok (.aload_n 0, 1) := by decide +kernel
theorem dX12_kinds_75 : decode cX12_kinds 75 = .ok (.getfield 56, 3) := by decide +kernel
theorem dX12_kinds_78 : decode cX12_kinds 78 = .ok (.aload_n 0, 1) := by decide +kernel
theorem dX12_kinds_79 : decode cX12_kinds 79 = .ok (.getfield 71, 3) := by decide +kernel
theorem dX12_kinds_82 : decode cX12_kinds 82 = .ok (.iload 5, 2) := by decide +kernel
theorem dX12_kinds_84 : decode cX12_kinds 84 = .ok (.iaload, 1) := by decide +kernel
theorem dX12_kinds_85 : decode cX12_kinds 85 = .ok (.iaload, 1) := by decide +kernel
theorem dX12_kinds_86 : decode cX12_kinds 86 = .ok (.aload_n 0, 1) := by decide +kernel
theorem dX12_kinds_87 : decode cX12_kinds 87 = .ok (.getfield 68, 3) := by decide +kernel
theorem dX12_kinds_90 : decode cX12_kinds 90 = .ok (.iload 5, 2) := by decide +kernel
theorem dX12_kinds_92 : decode cX12_kinds 92 = .ok (.iaload, 1) := by decide +kernel
theorem dX12_kinds_93 : decode cX12_kinds 93 = .ok (.if_icmp .ne 7, 3) := by decide +kernel
theorem dX12_kinds_96 : decode cX12_kinds 96 = .ok (.iconst 1, 1) := by decide +kernel
theorem dX12_kinds_97 : decode cX12_kinds 97 = .ok (.goto 4, 3) := by decide +kernel
theorem dX12_kinds_100 : decode cX12_kinds 100 = .ok (.iconst 0, 1) := by decide +kernel
theorem dX12_kinds_101 : decode cX12_kinds 101 = .ok (.istore 4, 2) := by decide +kernel
theorem dX12_kinds_103 : decode cX12_kinds 103 = .ok (.iinc 5 1, 3) := by decide +kernel
theorem dX12_kinds_106 : decode cX12_kinds 106 = .ok (.goto (-57), 3) := by decide +kernel
theorem dX12_kinds_109 : decode cX12_kinds 109 = .ok (.iload_n 2, 1) := by decide +kernel
theorem dX12_kinds_110 : decode cX12_kinds 110 = .ok (.iload 4, 2) := by decide +kernel
theorem dX12_kinds_112 : decode cX12_kinds 112 = .ok (.ifCond .eq 9, 3) := by decide +kernel
theorem dX12_kinds_115 : decode cX12_kinds 115 = .ok (.iconst 1, 1) := by decide +kernel
theorem dX12_kinds_116 : decode cX12_kinds 116 = .ok (.iload_n 3, 1) := by decide +kernel
theorem dX12_kinds_117 : decode cX12_kinds 117 = .ok (.ishl, 1) := by decide +kernel
theorem dX12_kinds_118 : decode cX12_kinds 118 = .ok (.goto 4, 3) := by decide +kernel
theorem dX12_kinds_121 : decode cX12_kinds 121 = .ok (.iconst 0, 1) := by decide +kernel
theorem dX12_kinds_122 : decode cX12_kinds 122 = .ok (.ior, 1) := by decide +kernel
theorem dX12_kinds_123 : decode cX12_kinds 123 = .ok (.istore_n 2, 1) := by decide +kernel
theorem dX12_kinds_124 : decode cX12_kinds 124 = .ok (.iinc 3 1, 3) := by decide +kernel
theorem dX12_kinds_127 : decode cX12_kinds 127 = .ok (.goto (-113), 3) := by decide +kernel
theorem dX12_kinds_130 : decode cX12_kinds 130 = .ok (.iload_n 2, 1) := by decide +kernel
theorem dX12_kinds_131 : decode cX12_kinds 131 = .ok (.ireturn, 1) := by decide +kernel
theorem dX12_paid_0 : decode cX12_paid 0 = .ok (.iload_n 1, 1) := by decide +kernel
theorem dX12_paid_1 : decode cX12_paid 1 = .ok (.iconst 0, 1) := by decide +kernel
theorem dX12_paid_2 : decode cX12_paid 2 = .ok (.sipush 999, 3) := by decide +kernel
theorem dX12_paid_5 : decode cX12_paid 5 = .ok (.invokestatic 94, 3) := by decide +kernel
theorem dX12_paid_8 : decode cX12_paid 8 = .ok (.ifCond .eq 12, 3) := by decide +kernel
theorem dX12_paid_11 : decode cX12_paid 11 = .ok (.iload_n 2, 1) := by decide +kernel
theorem dX12_paid_12 : decode cX12_paid 12 = .ok (.iconst 0, 1) := by decide +kernel
theorem dX12_paid_13 : decode cX12_paid 13 = .ok (.iconst 1, 1) := by decide +kernel
theorem dX12_paid_14 : decode cX12_paid 14 = .ok (.invokestatic 94, 3) := by decide +kernel
theorem dX12_paid_17 : decode cX12_paid 17 = .ok (.ifCond .ne 5, 3) := by decide +kernel
theorem dX12_paid_20 : decode cX12_paid 20 = .ok (.iconst (-1), 1) := by decide +kernel
theorem dX12_paid_21 : decode cX12_paid 21 = .ok (.ireturn, 1) := by decide +kernel
theorem dX12_paid_22 : decode cX12_paid 22 = .ok (.iconst 0, 1) := by decide +kernel
theorem dX12_paid_23 : decode cX12_paid 23 = .ok (.istore_n 3, 1) := by decide +kernel
theorem dX12_paid_24 : decode cX12_paid 24 = .ok (.bipush (-4), 2) := by decide +kernel
theorem dX12_paid_26 : decode cX12_paid 26 = .ok (.istore 4, 2) := by decide +kernel
theorem dX12_paid_28 : decode cX12_paid 28 = .ok (.iconst 0, 1) := by decide +kernel
theorem dX12_paid_29 : decode cX12_paid 29 = .ok (.istore 5, 2) := by decide +kernel
theorem dX12_paid_31 : decode cX12_paid 31 = .ok (.iload 5, 2) := by decide +kernel
theorem dX12_paid_33 : decode cX12_paid 33 = .ok (.iconst 1, 1) := by decide +kernel
theorem dX12_paid_34 : decode cX12_paid 34 = .ok (.aload_n 0, 1) := by decide +kernel
theorem dX12_paid_35 : decode cX12_paid 35 = .ok (.getfield 29, 3) := by decide +kernel
theorem dX12_paid_38 : decode cX12_paid 38 = .ok (.iconst 0, 1) := by decide +kernel
theorem dX12_paid_39 : decode cX12_paid 39 = .ok (.iaload, 1) := by decide +kernel
theorem dX12_paid_40 : decode cX12_paid 40 = .ok (.ishl, 1) := by decide +kernel
theorem dX12_paid_41 : decode cX12_paid 41 = .ok (.if_icmp .ge 78, 3) := by decide +kernel
theorem dX12_paid_44 : decode cX12_paid 44 = .ok (.iconst 0, 1) := by decide +kernel
theorem dX12_paid_45 : decode cX12_paid 45 = .ok (.istore 6, 2) := by decide +kernel
theorem dX12_paid_47 : decode cX12_paid 47 = .ok (.iconst 0, 1) := by decide +kernel
theorem dX12_paid_48 : decode cX12_paid 48 = .ok (.istore 7, 2) := by decide +kernel
theorem dX12_paid_50 : decode cX12_paid 50 = .ok (.iload 7, 2) := by decide +kernel
theorem dX12_paid_52 : decode cX12_paid 52 = .ok (.aload_n 0, 1) := by decide +kernel
theorem dX12_paid_53 : decode cX12_paid 53 = .ok (.getfield 29, 3) := by decide +kernel
theorem dX12_paid_56 : decode cX12_paid 56 = .ok (.iconst 0, 1) := by decide +kernel
theorem dX12_paid_57 : decode cX12_paid 57 = .ok (.iaload, 1) := by decide +kernel
theorem dX12_paid_58 : decode cX12_paid 58 = .ok (.if_icmp .ge 33, 3) := by decide +kernel
theorem dX12_paid_61 : decode cX12_paid 61 = .ok (.aload_n 0, 1) := by decide +kernel
theorem dX12_paid_62 : decode cX12_paid 62 = .ok (.iconst 0, 1) := by decide +kernel
theorem dX12_paid_63 : decode cX12_paid 63 = .ok (.iload 7, 2) := by decide +kernel
theorem dX12_paid_65 : decode cX12_paid 65 = .ok (.invokevirtual 193, 3) := by decide +kernel
theorem dX12_paid_68 : decode cX12_paid 68 = .ok (.iload 6, 2) := by decide +kernel
theorem dX12_paid_70 : decode cX12_paid 70 = .ok (.iload 5, 2) := by decide +kernel
theorem dX12_paid_72 : decode cX12_paid 72 = .ok (.iload 7, 2) := by decide +kernel
theorem dX12_paid_74 : decode cX12_paid 74 = .ok (.ishr, 1) := by decide +kernel
theorem dX12_paid_75 : decode cX12_paid 75 = .ok (.iconst 1, 1) := by decide +kernel
theorem dX12_paid_76 : decode cX12_paid 76 = .ok (.iand, 1) := by decide +kernel
theorem dX12_paid_77 : decode cX12_paid 77 = .ok (.aload_n 0, 1) := by decide +kernel
theorem dX12_paid_78 : decode cX12_paid 78 = .ok (.getfield 179, 3) := by decide +kernel
theorem dX12_paid_81 : decode cX12_paid 81 = .ok (.imul, 1) := by decide +kernel
theorem dX12_paid_82 : decode cX12_paid 82 = .ok (.iadd, 1) := by decide +kernel
theorem dX12_paid_83 : decode cX12_paid 83 = .ok (.istore 6, 2) := by decide +kernel
theorem dX12_paid_85 : decode cX12_paid 85 = .ok (.iinc 7 1, 3) := by decide +kernel
theorem dX12_paid_88 : decode cX12_paid 88 = .ok (.goto (-38), 3) := by decide +kernel
theorem dX12_paid_91 : decode cX12_paid 91 = .ok (.iload 6, 2) := by decide +kernel
theorem dX12_paid_93 : decode cX12_paid 93 = .ok (.iload_n 1, 1) := by decide +kernel
theorem dX12_paid_94 : decode cX12_paid 94 = .ok (.if_icmp .ne 19, 3) := by decide +kernel
theorem dX12_paid_97 : decode cX12_paid 97 = .ok (.iload_n 3, 1) := by decide +kernel
theorem dX12_paid_98 : decode cX12_paid 98 = .ok (.ifCond .ne 8, 3) := by decide +kernel
theorem dX12_paid_101 : decode cX12_paid 101 = .ok (.iload 5, 2) := by decide +kernel
theorem dX12_paid_103 : decode cX12_paid 103 = .ok (.goto 5, 3) := by decide +kernel
theorem dX12_paid_106 : decode cX12_paid 106 = .ok (.iload 4, 2) := by decide +kernel
theorem dX12_paid_108 : decode cX12_paid 108 = .ok (.istore 4, 2) := by decide +kernel
theorem dX12_paid_110 : decode cX12_paid 110 = .ok (.iinc 3 1, 3) := by decide +kernel
theorem dX12_paid_113 : decode cX12_paid 113 = .ok (.iinc 5 1, 3) := by decide +kernel
theorem dX12_paid_116 : decode cX12_paid 116 = .ok (.goto (-85), 3) := by decide +kernel
theorem dX12_paid_119 : decode cX12_paid 119 = .ok (.iload_n 2, 1) := by decide +kernel
theorem dX12_paid_120 : decode cX12_paid 120 = .ok (.ifCond .ne 7, 3) := by decide +kernel
theorem dX12_paid_123 : decode cX12_paid 123 = .ok (.iload_n 3, 1) := by decide +kernel
theorem dX12_paid_124 : decode cX12_paid 124 = .ok (.goto 5, 3) := by decide +kernel
theorem dX12_paid_127 : decode cX12_paid 127 = .ok (.iload 4, 2) := by decide +kernel
theorem dX12_paid_129 : decode cX12_paid 129 = .ok (.ireturn, 1) := by decide +kernel
theorem dX12_turned_0 : decode cX12_turned 0 = .ok (.iconst 0, 1) := by decide +kernel
theorem dX12_turned_1 : decode cX12_turned 1 = .ok (.istore_n 3, 1) := by decide +kernel
theorem dX12_turned_2 : decode cX12_turned 2 = .ok (.iload_n 3, 1) := by decide +kernel
theorem dX12_turned_3 : decode cX12_turned 3 = .ok (.aload_n 0, 1) := by decide +kernel
theorem dX12_turned_4 : decode cX12_turned 4 = .ok (.getfield 13, 3) := by decide +kernel
theorem dX12_turned_7 : decode cX12_turned 7 = .ok (.iconst 0, 1) := by decide +kernel
theorem dX12_turned_8 : decode cX12_turned 8 = .ok (.iaload, 1) := by decide +kernel
theorem dX12_turned_9 : decode cX12_turned 9 = .ok (.if_icmp .ge 33, 3) := by decide +kernel
theorem dX12_turned_12 : decode cX12_turned 12 = .ok (.iload_n 3, 1) := by decide +kernel
theorem dX12_turned_13 : decode cX12_turned 13 = .ok (.iload_n 2, 1) := by decide +kernel
theorem dX12_turned_14 : decode cX12_turned 14 = .ok (.if_icmp .eq 22, 3) := by decide +kernel
theorem dX12_turned_17 : decode cX12_turned 17 = .ok (.aload_n 0, 1) := by decide +kernel
theorem dX12_turned_18 : decode cX12_turned 18 = .ok (.getfield 50, 3) := by decide +kernel
theorem dX12_turned_21 : decode cX12_turned 21 = .ok (.bipush 8, 2) := by decide +kernel
theorem dX12_turned_23 : decode cX12_turned 23 = .ok (.iload_n 1, 1) := by decide +kernel
theorem dX12_turned_24 : decode cX12_turned 24 = .ok (.imul, 1) := by decide +kernel
theorem dX12_turned_25 : decode cX12_turned 25 = .ok (.iload_n 3, 1) := by decide +kernel
theorem dX12_turned_26 : decode cX12_turned 26 = .ok (.iadd, 1) := by decide +kernel
theorem dX12_turned_27 : decode cX12_turned 27 = .ok (.iaload, 1) := by decide +kernel
theorem dX12_turned_28 : decode cX12_turned 28 = .ok (.sipush 10000, 3) := by decide +kernel
theorem dX12_turned_31 : decode cX12_turned 31 = .ok (.if_icmp .ge 5, 3) := by decide +kernel
theorem dX12_turned_34 : decode cX12_turned 34 = .ok (.iload_n 3, 1) := by decide +kernel
theorem dX12_turned_35 : decode cX12_turned 35 = .ok (.ireturn, 1) := by decide +kernel
theorem dX12_turned_36 : decode cX12_turned 36 = .ok (.iinc 3 1, 3) := by decide +kernel
theorem dX12_turned_39 : decode cX12_turned 39 = .ok (.goto (-37), 3) := by decide +kernel
theorem dX12_turned_42 : decode cX12_turned 42 = .ok (.iload_n 2, 1) := by decide +kernel
theorem dX12_turned_43 : decode cX12_turned 43 = .ok (.ireturn, 1) := by decide +kernel
theorem dX12_mean_0 : decode cX12_mean 0 = .ok (.iload_n 1, 1) := by decide +kernel
theorem dX12_mean_1 : decode cX12_mean 1 = .ok (.iconst 0, 1) := by decide +kernel
theorem dX12_mean_2 : decode cX12_mean 2 = .ok (.iconst 5, 1) := by decide +kernel
theorem dX12_mean_3 : decode cX12_mean 3 = .ok (.invokestatic 94, 3) := by decide +kernel
theorem dX12_mean_6 : decode cX12_mean 6 = .ok (.ifCond .eq 22, 3) := by decide +kernel
theorem dX12_mean_9 : decode cX12_mean 9 = .ok (.iload_n 2, 1) := by decide +kernel
theorem dX12_mean_10 : decode cX12_mean 10 = .ok (.iconst 0, 1) := by decide +kernel
theorem dX12_mean_11 : decode cX12_mean 11 = .ok (.bipush 10, 2) := by decide +kernel
theorem dX12_mean_13 : decode cX12_mean 13 = .ok (.invokestatic 94, 3) := by decide +kernel
theorem dX12_mean_16 : decode cX12_mean 16 = .ok (.ifCond .eq 12, 3) := by decide +kernel
theorem dX12_mean_19 : decode cX12_mean 19 = .ok (.iload_n 3, 1) := by decide +kernel
theorem dX12_mean_20 : decode cX12_mean 20 = .ok (.iconst 0, 1) := by decide +kernel
theorem dX12_mean_21 : decode cX12_mean 21 = .ok (.iconst 1, 1) := by decide +kernel
theorem dX12_mean_22 : decode cX12_mean 22 = .ok (.invokestatic 94, 3) := by decide +kernel
theorem dX12_mean_25 : decode cX12_mean 25 = .ok (.ifCond .ne 5, 3) := by decide +kernel
theorem dX12_mean_28 : decode cX12_mean 28 = .ok (.iconst (-1), 1) := by decide +kernel
theorem dX12_mean_29 : decode cX12_mean 29 = .ok (.ireturn, 1) := by decide +kernel
theorem dX12_mean_30 : decode cX12_mean 30 = .ok (.iload_n 1, 1) := by decide +kernel
theorem dX12_mean_31 : decode cX12_mean 31 = .ok (.aload_n 0, 1) := by decide +kernel
theorem dX12_mean_32 : decode cX12_mean 32 = .ok (.getfield 47, 3) := by decide +kernel
theorem dX12_mean_35 : decode cX12_mean 35 = .ok (.iconst 0, 1) := by decide +kernel
theorem dX12_mean_36 : decode cX12_mean 36 = .ok (.iaload, 1) := by decide +kernel
theorem dX12_mean_37 : decode cX12_mean 37 = .ok (.if_icmp .ge 7, 3) := by decide +kernel
theorem dX12_mean_40 : decode cX12_mean 40 = .ok (.iload_n 1, 1) := by decide +kernel
theorem dX12_mean_41 : decode cX12_mean 41 = .ok (.goto 9, 3) := by decide +kernel
theorem dX12_mean_44 : decode cX12_mean 44 = .ok (.aload_n 0, 1) := by decide +kernel
theorem dX12_mean_45 : decode cX12_mean 45 = .ok (.getfield 47, 3) := by decide +kernel
theorem dX12_mean_48 : decode cX12_mean 48 = .ok (.iconst 0, 1) := by decide +kernel
theorem dX12_mean_49 : decode cX12_mean 49 = .ok (.iaload, 1) := by decide +kernel
theorem dX12_mean_50 : decode cX12_mean 50 = .ok (.istore 4, 2) := by decide +kernel
theorem dX12_mean_52 : decode cX12_mean 52 = .ok (.iconst 0, 1) := by decide +kernel
theorem dX12_mean_53 : decode cX12_mean 53 = .ok (.istore 5, 2) := by decide +kernel
theorem dX12_mean_55 : decode cX12_mean 55 = .ok (.iconst 1, 1) := by decide +kernel
theorem dX12_mean_56 : decode cX12_mean 56 = .ok (.istore 6, 2) := by decide +kernel
theorem dX12_mean_58 : decode cX12_mean 58 = .ok (.iconst 0, 1) := by decide +kernel
theorem dX12_mean_59 : decode cX12_mean 59 = .ok (.istore 7, 2) := by decide +kernel
theorem dX12_mean_61 : decode cX12_mean 61 = .ok (.iload 7, 2) := by decide +kernel
theorem dX12_mean_63 : decode cX12_mean 63 = .ok (.iload 4, 2) := by decide +kernel
theorem dX12_mean_65 : decode cX12_mean 65 = .ok (.if_icmp .ge 16, 3) := by decide +kernel
theorem dX12_mean_68 : decode cX12_mean 68 = .ok (.iload 6, 2) := by decide +kernel
theorem dX12_mean_70 : decode cX12_mean 70 = .ok (.bipush 10, 2) := by decide +kernel
theorem dX12_mean_72 : decode cX12_mean 72 = .ok (.imul, 1) := by decide +kernel
theorem dX12_mean_73 : decode cX12_mean 73 = .ok (.istore 6, 2) := by decide +kernel
theorem dX12_mean_75 : decode cX12_mean 75 = .ok (.iinc 7 1, 3) := by decide +kernel
theorem dX12_mean_78 : decode cX12_mean 78 = .ok (.goto (-17), 3) := by decide +kernel
theorem dX12_mean_81 : decode cX12_mean 81 = .ok (.iconst 0, 1) := by decide +kernel
theorem dX12_mean_82 : decode cX12_mean 82 = .ok (.istore 7, 2) := by decide +kernel
theorem dX12_mean_84 : decode cX12_mean 84 = .ok (.iload 7, 2) := by decide +kernel
theorem dX12_mean_86 : decode cX12_mean 86 = .ok (.iconst 1, 1) := by decide +kernel
theorem dX12_mean_87 : decode cX12_mean 87 = .ok (.iload 4, 2) := by decide +kernel
theorem dX12_mean_89 : decode cX12_mean 89 = .ok (.ishl, 1) := by decide +kernel
theorem dX12_mean_90 : decode cX12_mean 90 = .ok (.if_icmp .ge 152, 3) := by decide +kernel
theorem dX12_mean_93 : decode cX12_mean 93 = .ok (.aload_n 0, 1) := by decide +kernel
theorem dX12_mean_94 : decode cX12_mean 94 = .ok (.iconst 0, 1) := by decide +kernel
theorem dX12_mean_95 : decode cX12_mean 95 = .ok (.sipush 352, 3) := by decide +kernel
theorem dX12_mean_98 : decode cX12_mean 98 = .ok (.invokevirtual 203, 3) := by decide +kernel
theorem dX12_mean_101 : decode cX12_mean 101 = .ok (.iconst 1, 1) := by decide +kernel
theorem dX12_mean_102 : decode cX12_mean 102 = .ok (.istore 8, 2) := by decide +kernel
theorem dX12_mean_104 : decode cX12_mean 104 = .ok (.iconst 0, 1) := by decide +kernel
theorem dX12_mean_105 : decode cX12_mean 105 = .ok (.istore 9, 2) := by decide +kernel
theorem dX12_mean_107 : decode cX12_mean 107 = .ok (.iload 9, 2) := by decide +kernel
theorem dX12_mean_109 : decode cX12_mean 109 = .ok (.iload 4, 2) := by decide +kernel
theorem dX12_mean_111 : decode cX12_mean 111 = .ok (.if_icmp .ge 101, 3) := by decide +kernel
theorem dX12_mean_114 : decode cX12_mean 114 = .ok (.sipush 353, 3) := by decide +kernel
theorem dX12_mean_117 : decode cX12_mean 117 = .ok (.iconst 3, 1) := by decide +kernel
theorem dX12_mean_118 : decode cX12_mean 118 = .ok (.iload 9, 2) := by decide +kernel
theorem dX12_mean_120 : decode cX12_mean 120 = .ok (.imul, 1) := by decide +kernel
theorem dX12_mean_121 : decode cX12_mean 121 = .ok (.iadd, 1) := by decide +kernel
theorem dX12_mean_122 : decode cX12_mean 122 = .ok (.istore 10, 2) := by decide +kernel
theorem dX12_mean_124 : decode cX12_mean 124 = .ok (.iload 7, 2) := by decide +kernel
theorem dX12_mean_126 : decode cX12_mean 126 = .ok (.iload 9, 2) := by decide +kernel
theorem dX12_mean_128 : decode cX12_mean 128 = .ok (.ishr, 1) := by decide +kernel
theorem dX12_mean_129 : decode cX12_mean 129 = .ok (.iconst 1, 1) := by decide +kernel
theorem dX12_mean_130 : decode cX12_mean 130 = .ok (.iand, 1) := by decide +kernel
theorem dX12_mean_131 : decode cX12_mean 131 = .ok (.iconst 1, 1) := by decide +kernel
theorem dX12_mean_132 : decode cX12_mean 132 = .ok (.if_icmp .ne 7, 3) := by decide +kernel
theorem dX12_mean_135 : decode cX12_mean 135 = .ok (.iconst 1, 1) := by decide +kernel
theorem dX12_mean_136 : decode cX12_mean 136 = .ok (.goto 4, 3) := by decide +kernel
theorem dX12_mean_139 : decode cX12_mean 139 = .ok (.iconst 0, 1) := by decide +kernel
theorem dX12_mean_140 : decode cX12_mean 140 = .ok (.istore 11, 2) := by decide +kernel
theorem dX12_mean_142 : decode cX12_mean 142 = .ok (.iload 8, 2) := by decide +kernel
theorem dX12_mean_144 : decode cX12_mean 144 = .ok (.iload 11, 2) := by decide +kernel
theorem dX12_mean_146 : decode cX12_mean 146 = .ok (.ifCond .eq 7, 3) := by decide +kernel
theorem dX12_mean_149 : decode cX12_mean 149 = .ok (.iload_n 2, 1) := by decide +kernel
theorem dX12_mean_150 : decode cX12_mean 150 = .ok (.goto 7, 3) := by decide +kernel
theorem dX12_mean_153 : decode cX12_mean 153 = .ok (.bipush 10, 2) := by decide +kernel
theorem dX12_mean_155 : decode cX12_mean 155 = .ok (.iload_n 2, 1) := by decide +kernel
theorem dX12_mean_156 : decode cX12_mean 156 = .ok (.isub, 1) := by decide +kernel
theorem dX12_mean_157 : decode cX12_mean 157 = .ok (.imul, 1) := by decide +kernel
theorem dX12_mean_158 : decode cX12_mean 158 = .ok (.istore 8, 2) := by decide +kernel
theorem dX12_mean_160 : decode cX12_mean 160 = .ok (.aload_n 0, 1) := by decide +kernel
theorem dX12_mean_161 : decode cX12_mean 161 = .ok (.getfield 47, 3) := by decide +kernel
theorem dX12_mean_164 : decode cX12_mean 164 = .ok (.iload 10, 2) := by decide +kernel
theorem dX12_mean_166 : decode cX12_mean 166 = .ok (.iconst 2, 1) := by decide +kernel
theorem dX12_mean_167 : decode cX12_mean 167 = .ok (.iadd, 1) := by decide +kernel
theorem dX12_mean_168 : decode cX12_mean 168 = .ok (.iload 11, 2) := by decide +kernel
theorem dX12_mean_170 : decode cX12_mean 170 = .ok (.ifCond .eq 26, 3) := by decide +kernel
theorem dX12_mean_173 : decode cX12_mean 173 = .ok (.aload_n 0, 1) := by decide +kernel
theorem dX12_mean_174 : decode cX12_mean 174 = .ok (.aload_n 0, 1) := by decide +kernel
theorem dX12_mean_175 : decode cX12_mean 175 = .ok (.getfield 47, 3) := by decide +kernel
theorem dX12_mean_178 : decode cX12_mean 178 = .ok (.iload 10, 2) := by decide +kernel
theorem dX12_mean_180 : decode cX12_mean 180 = .ok (.iaload, 1) := by decide +kernel
theorem dX12_mean_181 : decode cX12_mean 181 = .ok (.aload_n 0, 1) := by decide +kernel
theorem dX12_mean_182 : decode cX12_mean 182 = .ok (.getfield 47, 3) := by decide +kernel
theorem dX12_mean_185 : decode cX12_mean 185 = .ok (.iload 10, 2) := by decide +kernel
theorem dX12_mean_187 : decode cX12_mean 187 = .ok (.iconst 2, 1) := by decide +kernel
theorem dX12_mean_188 : decode cX12_mean 188 = .ok (.iadd, 1) := by decide +kernel
theorem dX12_mean_189 : decode cX12_mean 189 = .ok (.iaload, 1) := by decide +kernel
theorem dX12_mean_190 : decode cX12_mean 190 = .ok (.invokevirtual 219, 3) := by decide +kernel
theorem dX12_mean_193 : decode cX12_mean 193 = .ok (.goto 12, 3) := by decide +kernel
theorem dX12_mean_196 : decode cX12_mean 196 = .ok (.aload_n 0, 1) := by decide +kernel
theorem dX12_mean_197 : decode cX12_mean 197 = .ok (.getfield 47, 3) := by decide +kernel
theorem dX12_mean_200 : decode cX12_mean 200 = .ok (.iload 10, 2) := by decide +kernel
theorem dX12_mean_202 : decode cX12_mean 202 = .ok (.iconst 2, 1) := by decide +kernel
theorem dX12_mean_203 : decode cX12_mean 203 = .ok (.iadd, 1) := by decide +kernel
theorem dX12_mean_204 : decode cX12_mean 204 = .ok (.iaload, 1) := by decide +kernel
theorem dX12_mean_205 : decode cX12_mean 205 = .ok (.iastore, 1) := by decide +kernel
theorem dX12_mean_206 : decode cX12_mean 206 = .ok (.iinc 9 1, 3) := by decide +kernel
theorem dX12_mean_209 : decode cX12_mean 209 = .ok (.goto (-102), 3) := by decide +kernel
theorem dX12_mean_212 : decode cX12_mean 212 = .ok (.iload 5, 2) := by decide +kernel
theorem dX12_mean_214 : decode cX12_mean 214 = .ok (.iload 8, 2) := by decide +kernel
theorem dX12_mean_216 : decode cX12_mean 216 = .ok (.ifCond .ne 7, 3) := by decide +kernel
theorem dX12_mean_219 : decode cX12_mean 219 = .ok (.iconst 0, 1) := by decide +kernel
theorem dX12_mean_220 : decode cX12_mean 220 = .ok (.goto 13, 3) := by decide +kernel
theorem dX12_mean_223 : decode cX12_mean 223 = .ok (.iload 8, 2) := by decide +kernel
theorem dX12_mean_225 : decode cX12_mean 225 = .ok (.aload_n 0, 1) := by decide +kernel
theorem dX12_mean_226 : decode cX12_mean 226 = .ok (.sipush 352, 3) := by decide +kernel
theorem dX12_mean_229 : decode cX12_mean 229 = .ok (.invokevirtual 200, 3) := by decide +kernel
theorem dX12_mean_232 : decode cX12_mean 232 = .ok (.imul, 1) := by decide +kernel
theorem dX12_mean_233 : decode cX12_mean 233 = .ok (.iadd, 1) := by decide +kernel
theorem dX12_mean_234 : decode cX12_mean 234 = .ok (.istore 5, 2) := by decide +kernel
theorem dX12_mean_236 : decode cX12_mean 236 = .ok (.iinc 7 1, 3) := by decide +kernel
theorem dX12_mean_239 : decode cX12_mean 239 = .ok (.goto (-155), 3) := by decide +kernel
theorem dX12_mean_242 : decode cX12_mean 242 = .ok (.iload 5, 2) := by decide +kernel
theorem dX12_mean_244 : decode cX12_mean 244 = .ok (.istore 7, 2) := by decide +kernel
theorem dX12_mean_246 : decode cX12_mean 246 = .ok (.iload 6, 2) := by decide +kernel
theorem dX12_mean_248 : decode cX12_mean 248 = .ok (.istore 8, 2) := by decide +kernel
theorem dX12_mean_250 : decode cX12_mean 250 = .ok (.iload 8, 2) := by decide +kernel
theorem dX12_mean_252 : decode cX12_mean 252 = .ok (.ifCond .eq 21, 3) := by decide +kernel
theorem dX12_mean_255 : decode cX12_mean 255 = .ok (.iload 7, 2) := by decide +kernel
theorem dX12_mean_257 : decode cX12_mean 257 = .ok (.iload 8, 2) := by decide +kernel
theorem dX12_mean_259 : decode cX12_mean 259 = .ok (.irem, 1) := by decide +kernel
theorem dX12_mean_260 : decode cX12_mean 260 = .ok (.istore 9, 2) := by decide +kernel
theorem dX12_mean_262 : decode cX12_mean 262 = .ok (.iload 8, 2) := by decide +kernel
theorem dX12_mean_264 : decode cX12_mean 264 = .ok (.istore 7, 2) := by decide +kernel
theorem dX12_mean_266 : decode cX12_mean 266 = .ok (.iload 9, 2) := by decide +kernel
theorem dX12_mean_268 : decode cX12_mean 268 = .ok (.istore 8, 2) := by decide +kernel
theorem dX12_mean_270 : decode cX12_mean 270 = .ok (.goto (-20), 3) := by decide +kernel
theorem dX12_mean_273 : decode cX12_mean 273 = .ok (.iload_n 3, 1) := by decide +kernel
theorem dX12_mean_274 : decode cX12_mean 274 = .ok (.ifCond .ne 11, 3) := by decide +kernel
theorem dX12_mean_277 : decode cX12_mean 277 = .ok (.iload 5, 2) := by decide +kernel
theorem dX12_mean_279 : decode cX12_mean 279 = .ok (.iload 7, 2) := by decide +kernel
theorem dX12_mean_281 : decode cX12_mean 281 = .ok (.idiv, 1) := by decide +kernel
theorem dX12_mean_282 : decode cX12_mean 282 = .ok (.goto 8, 3) := by decide +kernel
end
section
theorem dX12_mean_285 : decode cX12_mean 285 = .ok (.iload 6, 2) := by decide +kernel
theorem dX12_mean_287 : decode cX12_mean 287 = .ok (.iload 7, 2) := by decide +kernel
theorem dX12_mean_289 : decode cX12_mean 289 = .ok (.idiv, 1) := by decide +kernel
theorem dX12_mean_290 : decode cX12_mean 290 = .ok (.ireturn, 1) := by decide +kernel
theorem dX12_day_0 : decode cX12_day 0 = .ok (.iload_n 1, 1) := by decide +kernel
theorem dX12_day_1 : decode cX12_day 1 = .ok (.iconst 0, 1) := by decide +kernel
theorem dX12_day_2 : decode cX12_day 2 = .ok (.sipush 9999, 3) := by decide +kernel
theorem dX12_day_5 : decode cX12_day 5 = .ok (.invokestatic 94, 3) := by decide +kernel
theorem dX12_day_8 : decode cX12_day 8 = .ok (.ifCond .eq 12, 3) := by decide +kernel
theorem dX12_day_11 : decode cX12_day 11 = .ok (.iload_n 2, 1) := by decide +kernel
theorem dX12_day_12 : decode cX12_day 12 = .ok (.iconst 0, 1) := by decide +kernel
theorem dX12_day_13 : decode cX12_day 13 = .ok (.iconst 1, 1) := by decide +kernel
theorem dX12_day_14 : decode cX12_day 14 = .ok (.invokestatic 94, 3) := by decide +kernel
theorem dX12_day_17 : decode cX12_day 17 = .ok (.ifCond .ne 5, 3) := by decide +kernel
theorem dX12_day_20 : decode cX12_day 20 = .ok (.iconst (-1), 1) := by decide +kernel
theorem dX12_day_21 : decode cX12_day 21 = .ok (.ireturn, 1) := by decide +kernel
theorem dX12_day_22 : decode cX12_day 22 = .ok (.iconst 0, 1) := by decide +kernel
theorem dX12_day_23 : decode cX12_day 23 = .ok (.istore_n 3, 1) := by decide +kernel
theorem dX12_day_24 : decode cX12_day 24 = .ok (.iconst 0, 1) := by decide +kernel
theorem dX12_day_25 : decode cX12_day 25 = .ok (.istore 4, 2) := by decide +kernel
theorem dX12_day_27 : decode cX12_day 27 = .ok (.iconst 0, 1) := by decide +kernel
theorem dX12_day_28 : decode cX12_day 28 = .ok (.istore 5, 2) := by decide +kernel
theorem dX12_day_30 : decode cX12_day 30 = .ok (.iload 5, 2) := by decide +kernel
theorem dX12_day_32 : decode cX12_day 32 = .ok (.aload_n 0, 1) := by decide +kernel
theorem dX12_day_33 : decode cX12_day 33 = .ok (.getfield 29, 3) := by decide +kernel
theorem dX12_day_36 : decode cX12_day 36 = .ok (.iconst 0, 1) := by decide +kernel
theorem dX12_day_37 : decode cX12_day 37 = .ok (.iaload, 1) := by decide +kernel
theorem dX12_day_38 : decode cX12_day 38 = .ok (.if_icmp .ge 102, 3) := by decide +kernel
theorem dX12_day_41 : decode cX12_day 41 = .ok (.ldc2_w 222, 3) := by decide +kernel
theorem dX12_day_44 : decode cX12_day 44 = .ok (.iload_n 1, 1) := by decide +kernel
theorem dX12_day_45 : decode cX12_day 45 = .ok (.i2l, 1) := by decide +kernel
theorem dX12_day_46 : decode cX12_day 46 = .ok (.lmul, 1) := by decide +kernel
theorem dX12_day_47 : decode cX12_day 47 = .ok (.ldc2_w 224, 3) := by decide +kernel
theorem dX12_day_50 : decode cX12_day 50 = .ok (.iload 5, 2) := by decide +kernel
theorem dX12_day_52 : decode cX12_day 52 = .ok (.i2l, 1) := by decide +kernel
theorem dX12_day_53 : decode cX12_day 53 = .ok (.lmul, 1) := by decide +kernel
theorem dX12_day_54 : decode cX12_day 54 = .ok (.ladd, 1) := by decide +kernel
theorem dX12_day_55 : decode cX12_day 55 = .ok (.lconst 1, 1) := by decide +kernel
theorem dX12_day_56 : decode cX12_day 56 = .ok (.ladd, 1) := by decide +kernel
theorem dX12_day_57 : decode cX12_day 57 = .ok (.lstore 6, 2) := by decide +kernel
theorem dX12_day_59 : decode cX12_day 59 = .ok (.lload 6, 2) := by decide +kernel
theorem dX12_day_61 : decode cX12_day 61 = .ok (.lload 6, 2) := by decide +kernel
theorem dX12_day_63 : decode cX12_day 63 = .ok (.lmul, 1) := by decide +kernel
theorem dX12_day_64 : decode cX12_day 64 = .ok (.ldc2_w 226, 3) := by decide +kernel
theorem dX12_day_67 : decode cX12_day 67 = .ok (.lrem, 1) := by decide +kernel
theorem dX12_day_68 : decode cX12_day 68 = .ok (.l2i, 1) := by decide +kernel
theorem dX12_day_69 : decode cX12_day 69 = .ok (.istore 8, 2) := by decide +kernel
theorem dX12_day_71 : decode cX12_day 71 = .ok (.iload 8, 2) := by decide +kernel
theorem dX12_day_73 : decode cX12_day 73 = .ok (.bipush 8, 2) := by decide +kernel
theorem dX12_day_75 : decode cX12_day 75 = .ok (.idiv, 1) := by decide +kernel
theorem dX12_day_76 : decode cX12_day 76 = .ok (.aload_n 0, 1) := by decide +kernel
theorem dX12_day_77 : decode cX12_day 77 = .ok (.getfield 13, 3) := by decide +kernel
theorem dX12_day_80 : decode cX12_day 80 = .ok (.iconst 0, 1) := by decide +kernel
theorem dX12_day_81 : decode cX12_day 81 = .ok (.iaload, 1) := by decide +kernel
theorem dX12_day_82 : decode cX12_day 82 = .ok (.irem, 1) := by decide +kernel
theorem dX12_day_83 : decode cX12_day 83 = .ok (.istore 9, 2) := by decide +kernel
theorem dX12_day_85 : decode cX12_day 85 = .ok (.aload_n 0, 1) := by decide +kernel
theorem dX12_day_86 : decode cX12_day 86 = .ok (.iconst 0, 1) := by decide +kernel
theorem dX12_day_87 : decode cX12_day 87 = .ok (.aload_n 0, 1) := by decide +kernel
theorem dX12_day_88 : decode cX12_day 88 = .ok (.getfield 32, 3) := by decide +kernel
theorem dX12_day_91 : decode cX12_day 91 = .ok (.iload 5, 2) := by decide +kernel
theorem dX12_day_93 : decode cX12_day 93 = .ok (.iaload, 1) := by decide +kernel
theorem dX12_day_94 : decode cX12_day 94 = .ok (.iload 8, 2) := by decide +kernel
theorem dX12_day_96 : decode cX12_day 96 = .ok (.aload_n 0, 1) := by decide +kernel
theorem dX12_day_97 : decode cX12_day 97 = .ok (.getfield 13, 3) := by decide +kernel
theorem dX12_day_100 : decode cX12_day 100 = .ok (.iconst 0, 1) := by decide +kernel
theorem dX12_day_101 : decode cX12_day 101 = .ok (.iaload, 1) := by decide +kernel
theorem dX12_day_102 : decode cX12_day 102 = .ok (.irem, 1) := by decide +kernel
theorem dX12_day_103 : decode cX12_day 103 = .ok (.iload 9, 2) := by decide +kernel
theorem dX12_day_105 : decode cX12_day 105 = .ok (.iload 9, 2) := by decide +kernel
theorem dX12_day_107 : decode cX12_day 107 = .ok (.invokevirtual 189, 3) := by decide +kernel
theorem dX12_day_110 : decode cX12_day 110 = .ok (.iload_n 3, 1) := by decide +kernel
theorem dX12_day_111 : decode cX12_day 111 = .ok (.aload_n 0, 1) := by decide +kernel
theorem dX12_day_112 : decode cX12_day 112 = .ok (.getfield 179, 3) := by decide +kernel
theorem dX12_day_115 : decode cX12_day 115 = .ok (.iadd, 1) := by decide +kernel
theorem dX12_day_116 : decode cX12_day 116 = .ok (.istore_n 3, 1) := by decide +kernel
theorem dX12_day_117 : decode cX12_day 117 = .ok (.iload 4, 2) := by decide +kernel
theorem dX12_day_119 : decode cX12_day 119 = .ok (.aload_n 0, 1) := by decide +kernel
theorem dX12_day_120 : decode cX12_day 120 = .ok (.getfield 186, 3) := by decide +kernel
theorem dX12_day_123 : decode cX12_day 123 = .ok (.ifCond .eq 7, 3) := by decide +kernel
theorem dX12_day_126 : decode cX12_day 126 = .ok (.iconst 1, 1) := by decide +kernel
theorem dX12_day_127 : decode cX12_day 127 = .ok (.goto 4, 3) := by decide +kernel
theorem dX12_day_130 : decode cX12_day 130 = .ok (.iconst 0, 1) := by decide +kernel
theorem dX12_day_131 : decode cX12_day 131 = .ok (.iadd, 1) := by decide +kernel
theorem dX12_day_132 : decode cX12_day 132 = .ok (.istore 4, 2) := by decide +kernel
theorem dX12_day_134 : decode cX12_day 134 = .ok (.iinc 5 1, 3) := by decide +kernel
theorem dX12_day_137 : decode cX12_day 137 = .ok (.goto (-107), 3) := by decide +kernel
theorem dX12_day_140 : decode cX12_day 140 = .ok (.iload_n 2, 1) := by decide +kernel
theorem dX12_day_141 : decode cX12_day 141 = .ok (.ifCond .ne 7, 3) := by decide +kernel
theorem dX12_day_144 : decode cX12_day 144 = .ok (.iload_n 3, 1) := by decide +kernel
theorem dX12_day_145 : decode cX12_day 145 = .ok (.goto 5, 3) := by decide +kernel
theorem dX12_day_148 : decode cX12_day 148 = .ok (.iload 4, 2) := by decide +kernel
theorem dX12_day_150 : decode cX12_day 150 = .ok (.ireturn, 1) := by decide +kernel
theorem dX12_keep_0 : decode cX12_keep 0 = .ok (.aload_n 0, 1) := by decide +kernel
theorem dX12_keep_1 : decode cX12_keep 1 = .ok (.getfield 132, 3) := by decide +kernel
theorem dX12_keep_4 : decode cX12_keep 4 = .ok (.iconst 2, 1) := by decide +kernel
theorem dX12_keep_5 : decode cX12_keep 5 = .ok (.if_icmp .ne 6, 3) := by decide +kernel
theorem dX12_keep_8 : decode cX12_keep 8 = .ok (.bipush (-3), 2) := by decide +kernel
theorem dX12_keep_10 : decode cX12_keep 10 = .ok (.ireturn, 1) := by decide +kernel
theorem dX12_keep_11 : decode cX12_keep 11 = .ok (.aload_n 0, 1) := by decide +kernel
theorem dX12_keep_12 : decode cX12_keep 12 = .ok (.iconst 0, 1) := by decide +kernel
theorem dX12_keep_13 : decode cX12_keep 13 = .ok (.sipush 288, 3) := by decide +kernel
theorem dX12_keep_16 : decode cX12_keep 16 = .ok (.bipush 32, 2) := by decide +kernel
theorem dX12_keep_18 : decode cX12_keep 18 = .ok (.aload_n 0, 1) := by decide +kernel
theorem dX12_keep_19 : decode cX12_keep 19 = .ok (.getfield 132, 3) := by decide +kernel
theorem dX12_keep_22 : decode cX12_keep 22 = .ok (.imul, 1) := by decide +kernel
theorem dX12_keep_23 : decode cX12_keep 23 = .ok (.iadd, 1) := by decide +kernel
theorem dX12_keep_24 : decode cX12_keep 24 = .ok (.invokevirtual 203, 3) := by decide +kernel
theorem dX12_keep_27 : decode cX12_keep 27 = .ok (.aload_n 0, 1) := by decide +kernel
theorem dX12_keep_28 : decode cX12_keep 28 = .ok (.dup, 1) := by decide +kernel
theorem dX12_keep_29 : decode cX12_keep 29 = .ok (.getfield 132, 3) := by decide +kernel
theorem dX12_keep_32 : decode cX12_keep 32 = .ok (.iconst 1, 1) := by decide +kernel
theorem dX12_keep_33 : decode cX12_keep 33 = .ok (.iadd, 1) := by decide +kernel
theorem dX12_keep_34 : decode cX12_keep 34 = .ok (.putfield 132, 3) := by decide +kernel
theorem dX12_keep_37 : decode cX12_keep 37 = .ok (.aload_n 0, 1) := by decide +kernel
theorem dX12_keep_38 : decode cX12_keep 38 = .ok (.getfield 132, 3) := by decide +kernel
theorem dX12_keep_41 : decode cX12_keep 41 = .ok (.ireturn, 1) := by decide +kernel
theorem dX12_back_0 : decode cX12_back 0 = .ok (.aload_n 0, 1) := by decide +kernel
theorem dX12_back_1 : decode cX12_back 1 = .ok (.getfield 132, 3) := by decide +kernel
theorem dX12_back_4 : decode cX12_back 4 = .ok (.ifCond .ne 6, 3) := by decide +kernel
theorem dX12_back_7 : decode cX12_back 7 = .ok (.bipush (-2), 2) := by decide +kernel
theorem dX12_back_9 : decode cX12_back 9 = .ok (.ireturn, 1) := by decide +kernel
theorem dX12_back_10 : decode cX12_back 10 = .ok (.aload_n 0, 1) := by decide +kernel
theorem dX12_back_11 : decode cX12_back 11 = .ok (.dup, 1) := by decide +kernel
theorem dX12_back_12 : decode cX12_back 12 = .ok (.getfield 132, 3) := by decide +kernel
theorem dX12_back_15 : decode cX12_back 15 = .ok (.iconst 1, 1) := by decide +kernel
theorem dX12_back_16 : decode cX12_back 16 = .ok (.isub, 1) := by decide +kernel
theorem dX12_back_17 : decode cX12_back 17 = .ok (.putfield 132, 3) := by decide +kernel
theorem dX12_back_20 : decode cX12_back 20 = .ok (.aload_n 0, 1) := by decide +kernel
theorem dX12_back_21 : decode cX12_back 21 = .ok (.sipush 288, 3) := by decide +kernel
theorem dX12_back_24 : decode cX12_back 24 = .ok (.bipush 32, 2) := by decide +kernel
theorem dX12_back_26 : decode cX12_back 26 = .ok (.aload_n 0, 1) := by decide +kernel
theorem dX12_back_27 : decode cX12_back 27 = .ok (.getfield 132, 3) := by decide +kernel
theorem dX12_back_30 : decode cX12_back 30 = .ok (.imul, 1) := by decide +kernel
theorem dX12_back_31 : decode cX12_back 31 = .ok (.iadd, 1) := by decide +kernel
theorem dX12_back_32 : decode cX12_back 32 = .ok (.iconst 0, 1) := by decide +kernel
theorem dX12_back_33 : decode cX12_back 33 = .ok (.invokevirtual 203, 3) := by decide +kernel
theorem dX12_back_36 : decode cX12_back 36 = .ok (.aload_n 0, 1) := by decide +kernel
theorem dX12_back_37 : decode cX12_back 37 = .ok (.iconst 0, 1) := by decide +kernel
theorem dX12_back_38 : decode cX12_back 38 = .ok (.putfield 129, 3) := by decide +kernel
theorem dX12_back_41 : decode cX12_back 41 = .ok (.aload_n 0, 1) := by decide +kernel
theorem dX12_back_42 : decode cX12_back 42 = .ok (.getfield 132, 3) := by decide +kernel
theorem dX12_back_45 : decode cX12_back 45 = .ok (.ireturn, 1) := by decide +kernel
theorem dX12_count_0 : decode cX12_count 0 = .ok (.iload_n 1, 1) := by decide +kernel
theorem dX12_count_1 : decode cX12_count 1 = .ok (.tableswitch 95 0 7 #[47, 54, 61, 68, 75, 80, 85, 90], 47) := by decide +kernel
theorem dX12_count_48 : decode cX12_count 48 = .ok (.aload_n 0, 1) := by decide +kernel
theorem dX12_count_49 : decode cX12_count 49 = .ok (.getfield 13, 3) := by decide +kernel
theorem dX12_count_52 : decode cX12_count 52 = .ok (.iconst 0, 1) := by decide +kernel
theorem dX12_count_53 : decode cX12_count 53 = .ok (.iaload, 1) := by decide +kernel
theorem dX12_count_54 : decode cX12_count 54 = .ok (.ireturn, 1) := by decide +kernel
theorem dX12_count_55 : decode cX12_count 55 = .ok (.aload_n 0, 1) := by decide +kernel
theorem dX12_count_56 : decode cX12_count 56 = .ok (.getfield 17, 3) := by decide +kernel
theorem dX12_count_59 : decode cX12_count 59 = .ok (.iconst 0, 1) := by decide +kernel
theorem dX12_count_60 : decode cX12_count 60 = .ok (.iaload, 1) := by decide +kernel
theorem dX12_count_61 : decode cX12_count 61 = .ok (.ireturn, 1) := by decide +kernel
theorem dX12_count_62 : decode cX12_count 62 = .ok (.aload_n 0, 1) := by decide +kernel
theorem dX12_count_63 : decode cX12_count 63 = .ok (.getfield 47, 3) := by decide +kernel
theorem dX12_count_66 : decode cX12_count 66 = .ok (.iconst 0, 1) := by decide +kernel
theorem dX12_count_67 : decode cX12_count 67 = .ok (.iaload, 1) := by decide +kernel
theorem dX12_count_68 : decode cX12_count 68 = .ok (.ireturn, 1) := by decide +kernel
theorem dX12_count_69 : decode cX12_count 69 = .ok (.aload_n 0, 1) := by decide +kernel
theorem dX12_count_70 : decode cX12_count 70 = .ok (.getfield 29, 3) := by decide +kernel
theorem dX12_count_73 : decode cX12_count 73 = .ok (.iconst 0, 1) := by decide +kernel
theorem dX12_count_74 : decode cX12_count 74 = .ok (.iaload, 1) := by decide +kernel
theorem dX12_count_75 : decode cX12_count 75 = .ok (.ireturn, 1) := by decide +kernel
theorem dX12_count_76 : decode cX12_count 76 = .ok (.aload_n 0, 1) := by decide +kernel
theorem dX12_count_77 : decode cX12_count 77 = .ok (.getfield 135, 3) := by decide +kernel
theorem dX12_count_80 : decode cX12_count 80 = .ok (.ireturn, 1) := by decide +kernel
theorem dX12_count_81 : decode cX12_count 81 = .ok (.aload_n 0, 1) := by decide +kernel
theorem dX12_count_82 : decode cX12_count 82 = .ok (.getfield 129, 3) := by decide +kernel
theorem dX12_count_85 : decode cX12_count 85 = .ok (.ireturn, 1) := by decide +kernel
theorem dX12_count_86 : decode cX12_count 86 = .ok (.aload_n 0, 1) := by decide +kernel
theorem dX12_count_87 : decode cX12_count 87 = .ok (.getfield 132, 3) := by decide +kernel
theorem dX12_count_90 : decode cX12_count 90 = .ok (.ireturn, 1) := by decide +kernel
theorem dX12_count_91 : decode cX12_count 91 = .ok (.aload_n 0, 1) := by decide +kernel
theorem dX12_count_92 : decode cX12_count 92 = .ok (.getfield 98, 3) := by decide +kernel
theorem dX12_count_95 : decode cX12_count 95 = .ok (.ireturn, 1) := by decide +kernel
theorem dX12_count_96 : decode cX12_count 96 = .ok (.iconst (-1), 1) := by decide +kernel
theorem dX12_count_97 : decode cX12_count 97 = .ok (.ireturn, 1) := by decide +kernel
theorem dJ9_max_7cf53_0 : decode cJ9_max_7cf53 0 = .ok (.iload_n 0, 1) := by decide +kernel
theorem dJ9_max_7cf53_1 : decode cJ9_max_7cf53 1 = .ok (.iload_n 1, 1) := by decide +kernel
theorem dJ9_max_7cf53_2 : decode cJ9_max_7cf53 2 = .ok (.if_icmp .lt 7, 3) := by decide +kernel
theorem dJ9_max_7cf53_5 : decode cJ9_max_7cf53 5 = .ok (.iload_n 0, 1) := by decide +kernel
theorem dJ9_max_7cf53_6 : decode cJ9_max_7cf53 6 = .ok (.goto 4, 3) := by decide +kernel
theorem dJ9_max_7cf53_9 : decode cJ9_max_7cf53 9 = .ok (.iload_n 1, 1) := by decide +kernel
theorem dJ9_max_7cf53_10 : decode cJ9_max_7cf53 10 = .ok (.ireturn, 1) := by decide +kernel
theorem dJ9_min_7cf53_0 : decode cJ9_min_7cf53 0 = .ok (.iload_n 0, 1) := by decide +kernel
theorem dJ9_min_7cf53_1 : decode cJ9_min_7cf53 1 = .ok (.iload_n 1, 1) := by decide +kernel
theorem dJ9_min_7cf53_2 : decode cJ9_min_7cf53 2 = .ok (.if_icmp .gt 7, 3) := by decide +kernel
theorem dJ9_min_7cf53_5 : decode cJ9_min_7cf53 5 = .ok (.iload_n 0, 1) := by decide +kernel
theorem dJ9_min_7cf53_6 : decode cJ9_min_7cf53 6 = .ok (.goto 4, 3) := by decide +kernel
theorem dJ9_min_7cf53_9 : decode cJ9_min_7cf53 9 = .ok (.iload_n 1, 1) := by decide +kernel
theorem dJ9_min_7cf53_10 : decode cJ9_min_7cf53 10 = .ok (.ireturn, 1) := by decide +kernel
theorem dJ0_length_8abf5_0 : decode cJ0_length_8abf5 0 = .ok (.aload_n 0, 1) := by decide +kernel
theorem dJ0_length_8abf5_1 : decode cJ0_length_8abf5 1 = .ok (.getfield 9, 3) := by decide +kernel
theorem dJ0_length_8abf5_4 : decode cJ0_length_8abf5 4 = .ok (.arraylength, 1) := by decide +kernel
theorem dJ0_length_8abf5_5 : decode cJ0_length_8abf5 5 = .ok (.aload_n 0, 1) := by decide +kernel
theorem dJ0_length_8abf5_6 : decode cJ0_length_8abf5 6 = .ok (.invokevirtual 335, 3) := by decide +kernel
theorem dJ0_length_8abf5_9 : decode cJ0_length_8abf5 9 = .ok (.ishr, 1) := by decide +kernel
theorem dJ0_length_8abf5_10 : decode cJ0_length_8abf5 10 = .ok (.ireturn, 1) := by decide +kernel
theorem dJ0_charAt_5068e_0 : decode cJ0_charAt_5068e 0 = .ok (.aload_n 0, 1) := by decide +kernel
theorem dJ0_charAt_5068e_1 : decode cJ0_charAt_5068e 1 = .ok (.invokevirtual 492, 3) := by decide +kernel
theorem dJ0_charAt_5068e_4 : decode cJ0_charAt_5068e 4 = .ok (.ifCond .eq 12, 3) := by decide +kernel
theorem dJ0_charAt_5068e_7 : decode cJ0_charAt_5068e 7 = .ok (.aload_n 0, 1) := by decide +kernel
theorem dJ0_charAt_5068e_8 : decode cJ0_charAt_5068e 8 = .ok (.getfield 9, 3) := by decide +kernel
theorem dJ0_charAt_5068e_11 : decode cJ0_charAt_5068e 11 = .ok (.iload_n 1, 1) := by decide +kernel
theorem dJ0_charAt_5068e_12 : decode cJ0_charAt_5068e 12 = .ok (.invokestatic 495, 3) := by decide +kernel
theorem dJ0_charAt_5068e_15 : decode cJ0_charAt_5068e 15 = .ok (.ireturn, 1) := by decide +kernel
theorem dJ0_charAt_5068e_16 : decode cJ0_charAt_5068e 16 = .ok (.aload_n 0, 1) := by decide +kernel
theorem dJ0_charAt_5068e_17 : decode cJ0_charAt_5068e 17 = .ok (.getfield 9, 3) := by decide +kernel
theorem dJ0_charAt_5068e_20 : decode cJ0_charAt_5068e 20 = .ok (.iload_n 1, 1) := by decide +kernel
theorem dJ0_charAt_5068e_21 : decode cJ0_charAt_5068e 21 = .ok (.invokestatic 498, 3) := by decide +kernel
theorem dJ0_charAt_5068e_24 : decode cJ0_charAt_5068e 24 = .ok (.ireturn, 1) := by decide +kernel
theorem dJ0_coder_7d493_0 : decode cJ0_coder_7d493 0 = .ok (.getstatic 38, 3) := by decide +kernel
theorem dJ0_coder_7d493_3 : decode cJ0_coder_7d493 3 = .ok (.ifCond .eq 10, 3) := by decide +kernel
theorem dJ0_coder_7d493_6 : decode cJ0_coder_7d493 6 = .ok (.aload_n 0, 1) := by decide +kernel
theorem dJ0_coder_7d493_7 : decode cJ0_coder_7d493 7 = .ok (.getfield 15, 3) := by decide +kernel
theorem dJ0_coder_7d493_10 : decode cJ0_coder_7d493 10 = .ok (.goto 4, 3) := by decide +kernel
theorem dJ0_coder_7d493_13 : decode cJ0_coder_7d493 13 = .ok (.iconst 1, 1) := by decide +kernel
theorem dJ0_coder_7d493_14 : decode cJ0_coder_7d493 14 = .ok (.ireturn, 1) := by decide +kernel
theorem dJ0_isLatin1_aae02_0 : decode cJ0_isLatin1_aae02 0 = .ok (.getstatic 38, 3) := by decide +kernel
theorem dJ0_isLatin1_aae02_3 : decode cJ0_isLatin1_aae02 3 = .ok (.ifCond .eq 14, 3) := by decide +kernel
theorem dJ0_isLatin1_aae02_6 : decode cJ0_isLatin1_aae02 6 = .ok (.aload_n 0, 1) := by decide +kernel
theorem dJ0_isLatin1_aae02_7 : decode cJ0_isLatin1_aae02 7 = .ok (.getfield 15, 3) := by decide +kernel
theorem dJ0_isLatin1_aae02_10 : decode cJ0_isLatin1_aae02 10 = .ok (.ifCond .ne 7, 3) := by decide +kernel
theorem dJ0_isLatin1_aae02_13 : decode cJ0_isLatin1_aae02 13 = .ok (.iconst 1, 1) := by decide +kernel
theorem dJ0_isLatin1_aae02_14 : decode cJ0_isLatin1_aae02 14 = .ok (.goto 4, 3) := by decide +kernel
theorem dJ0_isLatin1_aae02_17 : decode cJ0_isLatin1_aae02 17 = .ok (.iconst 0, 1) := by decide +kernel
theorem dJ0_isLatin1_aae02_18 : decode cJ0_isLatin1_aae02 18 = .ok (.ireturn, 1) := by decide +kernel
theorem dJ0_checkIndex_df160_0 : decode cJ0_checkIndex_df160 0 = .ok (.iload_n 0, 1) := by decide +kernel
theorem dJ0_checkIndex_df160_1 : decode cJ0_checkIndex_df160 1 = .ok (.iload_n 1, 1) := by decide +kernel
theorem dJ0_checkIndex_df160_2 : decode cJ0_checkIndex_df160 2 = .ok (.getstatic 1053, 3) := by decide +kernel
theorem dJ0_checkIndex_df160_5 : decode cJ0_checkIndex_df160 5 = .ok (.invokestatic 1059, 3) := by decide +kernel
theorem dJ0_checkIndex_df160_8 : decode cJ0_checkIndex_df160 8 = .ok (.pop, 1) := by decide +kernel
theorem dJ0_checkIndex_df160_9 : decode cJ0_checkIndex_df160 9 = .ok (.return_, 1) := by decide +kernel
theorem dJ1_charAt_3b067_0 : decode cJ1_charAt_3b067 0 = .ok (.iload_n 1, 1) := by decide +kernel
theorem dJ1_charAt_3b067_1 : decode cJ1_charAt_3b067 1 = .ok (.aload_n 0, 1) := by decide +kernel
theorem dJ1_charAt_3b067_2 : decode cJ1_charAt_3b067 2 = .ok (.arraylength, 1) := by decide +kernel
theorem dJ1_charAt_3b067_3 : decode cJ1_charAt_3b067 3 = .ok (.invokestatic 9, 3) := by decide +kernel
theorem dJ1_charAt_3b067_6 : decode cJ1_charAt_3b067 6 = .ok (.aload_n 0, 1) := by decide +kernel
theorem dJ1_charAt_3b067_7 : decode cJ1_charAt_3b067 7 = .ok (.iload_n 1, 1) := by decide +kernel
theorem dJ1_charAt_3b067_8 : decode cJ1_charAt_3b067 8 = .ok (.baload, 1) := by decide +kernel
theorem dJ1_charAt_3b067_9 : decode cJ1_charAt_3b067 9 = .ok (.sipush 255, 3) := by decide +kernel
theorem dJ1_charAt_3b067_12 : decode cJ1_charAt_3b067 12 = .ok (.iand, 1) := by decide +kernel
theorem dJ1_charAt_3b067_13 : decode cJ1_charAt_3b067 13 = .ok (.i2c, 1) := by decide +kernel
theorem dJ1_charAt_3b067_14 : decode cJ1_charAt_3b067 14 = .ok (.ireturn, 1) := by decide +kernel
theorem dJ2_getChar_3b067_0 : decode cJ2_getChar_3b067 0 = .ok (.getstatic 44, 3) := by decide +kernel
theorem dJ2_getChar_3b067_3 : decode cJ2_getChar_3b067 3 = .ok (.ifCond .ne 25, 3) := by decide +kernel
theorem dJ2_getChar_3b067_6 : decode cJ2_getChar_3b067 6 = .ok (.iload_n 1, 1) := by decide +kernel
theorem dJ2_getChar_3b067_7 : decode cJ2_getChar_3b067 7 = .ok (.ifCond .lt 11, 3) := by decide +kernel
theorem dJ2_getChar_3b067_10 : decode cJ2_getChar_3b067 10 = .ok (.iload_n 1, 1) := by decide +kernel
theorem dJ2_getChar_3b067_11 : decode cJ2_getChar_3b067 11 = .ok (.aload_n 0, 1) := by decide +kernel
theorem dJ2_getChar_3b067_12 : decode cJ2_getChar_3b067 12 = .ok (.invokestatic 48, 3) := by decide +kernel
theorem dJ2_getChar_3b067_15 : decode cJ2_getChar_3b067 15 = .ok (.if_icmp .lt 13, 3) := by decide +kernel
theorem dJ2_getChar_3b067_18 : decode cJ2_getChar_3b067 18 = .ok (.new 52, 3) := by decide +kernel
theorem dJ2_getChar_3b067_21 : decode cJ2_getChar_3b067 21 = .ok (.dup, 1) := by decide +kernel
theorem dJ2_getChar_3b067_22 : decode cJ2_getChar_3b067 22 = .ok (.ldc 54, 2) := by decide +kernel
theorem dJ2_getChar_3b067_24 : decode cJ2_getChar_3b067 24 = .ok (.invokespecial 56, 3) := by decide +kernel
theorem dJ2_getChar_3b067_27 : decode cJ2_getChar_3b067 27 = .ok (.athrow, 1) := by decide +kernel
theorem dJ2_getChar_3b067_28 : decode cJ2_getChar_3b067 28 = .ok (.iload_n 1, 1) := by decide +kernel
theorem dJ2_getChar_3b067_29 : decode cJ2_getChar_3b067 29 = .ok (.iconst 1, 1) := by decide +kernel
theorem dJ2_getChar_3b067_30 : decode cJ2_getChar_3b067 30 = .ok (.ishl, 1) := by decide +kernel
theorem dJ2_getChar_3b067_31 : decode cJ2_getChar_3b067 31 = .ok (.istore_n 1, 1) := by decide +kernel
theorem dJ2_getChar_3b067_32 : decode cJ2_getChar_3b067 32 = .ok (.aload_n 0, 1) := by decide +kernel
theorem dJ2_getChar_3b067_33 : decode cJ2_getChar_3b067 33 = .ok (.iload_n 1, 1) := by decide +kernel
theorem dJ2_getChar_3b067_34 : decode cJ2_getChar_3b067 34 = .ok (.iinc 1 1, 3) := by decide +kernel
theorem dJ2_getChar_3b067_37 : decode cJ2_getChar_3b067 37 = .ok (.baload, 1) := by decide +kernel
theorem dJ2_getChar_3b067_38 : decode cJ2_getChar_3b067 38 = .ok (.sipush 255, 3) := by decide +kernel
theorem dJ2_getChar_3b067_41 : decode cJ2_getChar_3b067 41 = .ok (.iand, 1) := by decide +kernel
theorem dJ2_getChar_3b067_42 : decode cJ2_getChar_3b067 42 = .ok (.getstatic 59, 3) := by decide +kernel
theorem dJ2_getChar_3b067_45 : decode cJ2_getChar_3b067 45 = .ok (.ishl, 1) := by decide +kernel
theorem dJ2_getChar_3b067_46 : decode cJ2_getChar_3b067 46 = .ok (.aload_n 0, 1) := by decide +kernel
theorem dJ2_getChar_3b067_47 : decode cJ2_getChar_3b067 47 = .ok (.iload_n 1, 1) := by decide +kernel
theorem dJ2_getChar_3b067_48 : decode cJ2_getChar_3b067 48 = .ok (.baload, 1) := by decide +kernel
theorem dJ2_getChar_3b067_49 : decode cJ2_getChar_3b067 49 = .ok (.sipush 255, 3) := by decide +kernel
theorem dJ2_getChar_3b067_52 : decode cJ2_getChar_3b067 52 = .ok (.iand, 1) := by decide +kernel
theorem dJ2_getChar_3b067_53 : decode cJ2_getChar_3b067 53 = .ok (.getstatic 63, 3) := by decide +kernel
theorem dJ2_getChar_3b067_56 : decode cJ2_getChar_3b067 56 = .ok (.ishl, 1) := by decide +kernel
theorem dJ2_getChar_3b067_57 : decode cJ2_getChar_3b067 57 = .ok (.ior, 1) := by decide +kernel
theorem dJ2_getChar_3b067_58 : decode cJ2_getChar_3b067 58 = .ok (.i2c, 1) := by decide +kernel
theorem dJ2_getChar_3b067_59 : decode cJ2_getChar_3b067 59 = .ok (.ireturn, 1) := by decide +kernel
theorem dJ2_length_9d52b_0 : decode cJ2_length_9d52b 0 = .ok (.aload_n 0, 1) := by decide +kernel
theorem dJ2_length_9d52b_1 : decode cJ2_length_9d52b 1 = .ok (.arraylength, 1) := by decide +kernel
theorem dJ2_length_9d52b_2 : decode cJ2_length_9d52b 2 = .ok (.iconst 1, 1) := by decide +kernel
theorem dJ2_length_9d52b_3 : decode cJ2_length_9d52b 3 = .ok (.ishr, 1) := by decide +kernel
theorem dJ2_length_9d52b_4 : decode cJ2_length_9d52b 4 = .ok (.ireturn, 1) := by decide +kernel
theorem dJ2_charAt_3b067_0 : decode cJ2_charAt_3b067 0 = .ok (.iload_n 1, 1) := by decide +kernel
theorem dJ2_charAt_3b067_1 : decode cJ2_charAt_3b067 1 = .ok (.aload_n 0, 1) := by decide +kernel
theorem dJ2_charAt_3b067_2 : decode cJ2_charAt_3b067 2 = .ok (.invokestatic 67, 3) := by decide +kernel
theorem dJ2_charAt_3b067_5 : decode cJ2_charAt_3b067 5 = .ok (.aload_n 0, 1) := by decide +kernel
theorem dJ2_charAt_3b067_6 : decode cJ2_charAt_3b067 6 = .ok (.iload_n 1, 1) := by decide +kernel
theorem dJ2_charAt_3b067_7 : decode cJ2_charAt_3b067 7 = .ok (.invokestatic 71, 3) := by decide +kernel
theorem dJ2_charAt_3b067_10 : decode cJ2_charAt_3b067 10 = .ok (.ireturn, 1) := by decide +kernel
theorem dJ2_checkIndex_2214a_0 : decode cJ2_checkIndex_2214a 0 = .ok (.iload_n 0, 1) := by decide +kernel
theorem dJ2_checkIndex_2214a_1 : decode cJ2_checkIndex_2214a 1 = .ok (.aload_n 1, 1) := by decide +kernel
theorem dJ2_checkIndex_2214a_2 : decode cJ2_checkIndex_2214a 2 = .ok (.invokestatic 48, 3) := by decide +kernel
theorem dJ2_checkIndex_2214a_5 : decode cJ2_checkIndex_2214a 5 = .ok (.invokestatic 414, 3) := by decide +kernel
theorem dJ2_checkIndex_2214a_8 : decode cJ2_checkIndex_2214a 8 = .ok (.return_, 1) := by decide +kernel
theorem dJ7_fill_53178_0 : decode cJ7_fill_53178 0 = .ok (.iconst 0, 1) := by decide +kernel
theorem dJ7_fill_53178_1 : decode cJ7_fill_53178 1 = .ok (.istore_n 2, 1) := by decide +kernel
theorem dJ7_fill_53178_2 : decode cJ7_fill_53178 2 = .ok (.aload_n 0, 1) := by decide +kernel
theorem dJ7_fill_53178_3 : decode cJ7_fill_53178 3 = .ok (.arraylength, 1) := by decide +kernel
theorem dJ7_fill_53178_4 : decode cJ7_fill_53178 4 = .ok (.istore_n 3, 1) := by decide +kernel
theorem dJ7_fill_53178_5 : decode cJ7_fill_53178 5 = .ok (.iload_n 2, 1) := by decide +kernel
theorem dJ7_fill_53178_6 : decode cJ7_fill_53178 6 = .ok (.iload_n 3, 1) := by decide +kernel
theorem dJ7_fill_53178_7 : decode cJ7_fill_53178 7 = .ok (.if_icmp .ge 13, 3) := by decide +kernel
theorem dJ7_fill_53178_10 : decode cJ7_fill_53178 10 = .ok (.aload_n 0, 1) := by decide +kernel
theorem dJ7_fill_53178_11 : decode cJ7_fill_53178 11 = .ok (.iload_n 2, 1) := by decide +kernel
theorem dJ7_fill_53178_12 : decode cJ7_fill_53178 12 = .ok (.iload_n 1, 1) := by decide +kernel
theorem dJ7_fill_53178_13 : decode cJ7_fill_53178 13 = .ok (.iastore, 1) := by decide +kernel
theorem dJ7_fill_53178_14 : decode cJ7_fill_53178 14 = .ok (.iinc 2 1, 3) := by decide +kernel
theorem dJ7_fill_53178_17 : decode cJ7_fill_53178 17 = .ok (.goto (-12), 3) := by decide +kernel
theorem dJ7_fill_53178_20 : decode cJ7_fill_53178 20 = .ok (.return_, 1) := by decide +kernel
theorem dJ3_checkIndex_8e157_0 : decode cJ3_checkIndex_8e157 0 = .ok (.iload_n 0, 1) := by decide +kernel
theorem dJ3_checkIndex_8e157_1 : decode cJ3_checkIndex_8e157 1 = .ok (.ifCond .lt 8, 3) := by decide +kernel
theorem dJ3_checkIndex_8e157_4 : decode cJ3_checkIndex_8e157 4 = .ok (.iload_n 0, 1) := by decide +kernel
theorem dJ3_checkIndex_8e157_5 : decode cJ3_checkIndex_8e157 5 = .ok (.iload_n 1, 1) := by decide +kernel
theorem dJ3_checkIndex_8e157_6 : decode cJ3_checkIndex_8e157 6 = .ok (.if_icmp .lt 10, 3) := by decide +kernel
theorem dJ3_checkIndex_8e157_9 : decode cJ3_checkIndex_8e157 9 = .ok (.aload_n 2, 1) := by decide +kernel
theorem dJ3_checkIndex_8e157_10 : decode cJ3_checkIndex_8e157 10 = .ok (.iload_n 0, 1) := by decide +kernel
theorem dJ3_checkIndex_8e157_11 : decode cJ3_checkIndex_8e157 11 = .ok (.iload_n 1, 1) := by decide +kernel
theorem dJ3_checkIndex_8e157_12 : decode cJ3_checkIndex_8e157 12 = .ok (.invokestatic 95, 3) := by decide +kernel
theorem dJ3_checkIndex_8e157_15 : decode cJ3_checkIndex_8e157 15 = .ok (.athrow, 1) := by decide +kernel
theorem dJ3_checkIndex_8e157_16 : decode cJ3_checkIndex_8e157 16 = .ok (.iload_n 0, 1) := by decide +kernel
theorem dJ3_checkIndex_8e157_17 : decode cJ3_checkIndex_8e157 17 = .ok (.ireturn, 1) := by decide +kernel
theorem dL_law_0 : decode cL_law 0 = .ok (.new 7, 3) := by decide +kernel
theorem dL_law_3 : decode cL_law 3 = .ok (.dup, 1) := by decide +kernel
theorem dL_law_4 : decode cL_law 4 = .ok (.invokespecial 9, 3) := by decide +kernel
theorem dL_law_7 : decode cL_law 7 = .ok (.astore_n 1, 1) := by decide +kernel
theorem dL_law_8 : decode cL_law 8 = .ok (.new 10, 3) := by decide +kernel
theorem dL_law_11 : decode cL_law 11 = .ok (.dup, 1) := by decide +kernel
theorem dL_law_12 : decode cL_law 12 = .ok (.invokespecial 12, 3) := by decide +kernel
theorem dL_law_15 : decode cL_law 15 = .ok (.astore_n 2, 1) := by decide +kernel
theorem dL_law_16 : decode cL_law 16 = .ok (.iconst 0, 1) := by decide +kernel
theorem dL_law_17 : decode cL_law 17 = .ok (.istore_n 3, 1) := by decide +kernel
theorem dL_law_18 : decode cL_law 18 = .ok (.iload_n 3, 1) := by decide +kernel
theorem dL_law_19 : decode cL_law 19 = .ok (.aload_n 0, 1) := by decide +kernel
theorem dL_law_20 : decode cL_law 20 = .ok (.arraylength, 1) := by decide +kernel
theorem dL_law_21 : decode cL_law 21 = .ok (.iconst 4, 1) := by decide +kernel
theorem dL_law_22 : decode cL_law 22 = .ok (.isub, 1) := by decide +kernel
theorem dL_law_23 : decode cL_law 23 = .ok (.if_icmp .gt 938, 3) := by decide +kernel
theorem dL_law_26 : decode cL_law 26 = .ok (.aload_n 0, 1) := by decide +kernel
theorem dL_law_27 : decode cL_law 27 = .ok (.iload_n 3, 1) := by decide +kernel
theorem dL_law_28 : decode cL_law 28 = .ok (.iaload, 1) := by decide +kernel
theorem dL_law_29 : decode cL_law 29 = .ok (.bipush 31, 2) := by decide +kernel
theorem dL_law_31 : decode cL_law 31 = .ok (.iand, 1) := by decide +kernel
theorem dL_law_32 : decode cL_law 32 = .ok (.tableswitch 923 0 30 #[140, 163, 176, 189, 202, 235, 268, 301, 334, 367, 400, 423, 436, 479, 502, 535, 548, 561, 584, 607, 640, 663, 686, 729, 742, 765, 798, 841, 874, 887, 900], 140) := by decide +kernel
theorem dL_law_172 : decode cL_law 172 = .ok (.aload_n 1, 1) := by decide +kernel
theorem dL_law_173 : decode cL_law 173 = .ok (.aload_n 0, 1) := by decide +kernel
theorem dL_law_174 : decode cL_law 174 = .ok (.iload_n 3, 1) := by decide +kernel
theorem dL_law_175 : decode cL_law 175 = .ok (.iconst 1, 1) := by decide +kernel
theorem dL_law_176 : decode cL_law 176 = .ok (.iadd, 1) := by decide +kernel
theorem dL_law_177 : decode cL_law 177 = .ok (.iaload, 1) := by decide +kernel
theorem dL_law_178 : decode cL_law 178 = .ok (.invokevirtual 13, 3) := by decide +kernel
theorem dL_law_181 : decode cL_law 181 = .ok (.aload_n 2, 1) := by decide +kernel
theorem dL_law_182 : decode cL_law 182 = .ok (.aload_n 0, 1) := by decide +kernel
theorem dL_law_183 : decode cL_law 183 = .ok (.iload_n 3, 1) := by decide +kernel
theorem dL_law_184 : decode cL_law 184 = .ok (.iconst 1, 1) := by decide +kernel
theorem dL_law_185 : decode cL_law 185 = .ok (.iadd, 1) := by decide +kernel
theorem dL_law_186 : decode cL_law 186 = .ok (.iaload, 1) := by decide +kernel
theorem dL_law_187 : decode cL_law 187 = .ok (.invokevirtual 17, 3) := by decide +kernel
theorem dL_law_190 : decode cL_law 190 = .ok (.if_icmp .eq 765, 3) := by decide +kernel
theorem dL_law_193 : decode cL_law 193 = .ok (.iconst 0, 1) := by decide +kernel
theorem dL_law_194 : decode cL_law 194 = .ok (.ireturn, 1) := by decide +kernel
theorem dL_law_195 : decode cL_law 195 = .ok (.aload_n 1, 1) := by decide +kernel
theorem dL_law_196 : decode cL_law 196 = .ok (.invokevirtual 18, 3) := by decide +kernel
theorem dL_law_199 : decode cL_law 199 = .ok (.aload_n 2, 1) := by decide +kernel
theorem dL_law_200 : decode cL_law 200 = .ok (.invokevirtual 22, 3) := by decide +kernel
theorem dL_law_203 : decode cL_law 203 = .ok (.if_icmp .eq 752, 3) := by decide +kernel
theorem dL_law_206 : decode cL_law 206 = .ok (.iconst 0, 1) := by decide +kernel
theorem dL_law_207 : decode cL_law 207 = .ok (.ireturn, 1) := by decide +kernel
theorem dL_law_208 : decode cL_law 208 = .ok (.aload_n 1, 1) := by decide +kernel
theorem dL_law_209 : decode cL_law 209 = .ok (.invokevirtual 23, 3) := by decide +kernel
theorem dL_law_212 : decode cL_law 212 = .ok (.aload_n 2, 1) := by decide +kernel
theorem dL_law_213 : decode cL_law 213 = .ok (.invokevirtual 26, 3) := by decide +kernel
theorem dL_law_216 : decode cL_law 216 = .ok (.if_icmp .eq 739, 3) := by decide +kernel
theorem dL_law_219 : decode cL_law 219 = .ok (.iconst 0, 1) := by decide +kernel
theorem dL_law_220 : decode cL_law 220 = .ok (.ireturn, 1) := by decide +kernel
theorem dL_law_221 : decode cL_law 221 = .ok (.aload_n 1, 1) := by decide +kernel
theorem dL_law_222 : decode cL_law 222 = .ok (.invokevirtual 27, 3) := by decide +kernel
theorem dL_law_225 : decode cL_law 225 = .ok (.aload_n 2, 1) := by decide +kernel
theorem dL_law_226 : decode cL_law 226 = .ok (.invokevirtual 30, 3) := by decide +kernel
theorem dL_law_229 : decode cL_law 229 = .ok (.if_icmp .eq 726, 3) := by decide +kernel
theorem dL_law_232 : decode cL_law 232 = .ok (.iconst 0, 1) := by decide +kernel
theorem dL_law_233 : decode cL_law 233 = .ok (.ireturn, 1) := by decide +kernel
theorem dL_law_234 : decode cL_law 234 = .ok (.aload_n 1, 1) := by decide +kernel
theorem dL_law_235 : decode cL_law 235 = .ok (.aload_n 0, 1) := by decide +kernel
theorem dL_law_236 : decode cL_law 236 = .ok (.iload_n 3, 1) := by decide +kernel
theorem dL_law_237 : decode cL_law 237 = .ok (.iconst 1, 1) := by decide +kernel
theorem dL_law_238 : decode cL_law 238 = .ok (.iadd, 1) := by decide +kernel
theorem dL_law_239 : decode cL_law 239 = .ok (.iaload, 1) := by decide +kernel
theorem dL_law_240 : decode cL_law 240 = .ok (.aload_n 0, 1) := by decide +kernel
theorem dL_law_241 : decode cL_law 241 = .ok (.iload_n 3, 1) := by decide +kernel
theorem dL_law_242 : decode cL_law 242 = .ok (.iconst 2, 1) := by decide +kernel
theorem dL_law_243 : decode cL_law 243 = .ok (.iadd, 1) := by decide +kernel
theorem dL_law_244 : decode cL_law 244 = .ok (.iaload, 1) := by decide +kernel
theorem dL_law_245 : decode cL_law 245 = .ok (.invokevirtual 31, 3) := by decide +kernel
theorem dL_law_248 : decode cL_law 248 = .ok (.aload_n 2, 1) := by decide +kernel
theorem dL_law_249 : decode cL_law 249 = .ok (.aload_n 0, 1) := by decide +kernel
theorem dL_law_250 : decode cL_law 250 = .ok (.iload_n 3, 1) := by decide +kernel
theorem dL_law_251 : decode cL_law 251 = .ok (.iconst 1, 1) := by decide +kernel
theorem dL_law_252 : decode cL_law 252 = .ok (.iadd, 1) := by decide +kernel
theorem dL_law_253 : decode cL_law 253 = .ok (.iaload, 1) := by decide +kernel
theorem dL_law_254 : decode cL_law 254 = .ok (.aload_n 0, 1) := by decide +kernel
theorem dL_law_255 : decode cL_law 255 = .ok (.iload_n 3, 1) := by decide +kernel
theorem dL_law_256 : decode cL_law 256 = .ok (.iconst 2, 1) := by decide +kernel
theorem dL_law_257 : decode cL_law 257 = .ok (.iadd, 1) := by decide +kernel
theorem dL_law_258 : decode cL_law 258 = .ok (.iaload, 1) := by decide +kernel
theorem dL_law_259 : decode cL_law 259 = .ok (.invokevirtual 35, 3) := by decide +kernel
theorem dL_law_262 : decode cL_law 262 = .ok (.if_icmp .eq 693, 3) := by decide +kernel
theorem dL_law_265 : decode cL_law 265 = .ok (.iconst 0, 1) := by decide +kernel
theorem dL_law_266 : decode cL_law 266 = .ok (.ireturn, 1) := by decide +kernel
theorem dL_law_267 : decode cL_law 267 = .ok (.aload_n 1, 1) := by decide +kernel
theorem dL_law_268 : decode cL_law 268 = .ok (.aload_n 0, 1) := by decide +kernel
theorem dL_law_269 : decode cL_law 269 = .ok (.iload_n 3, 1) := by decide +kernel
theorem dL_law_270 : decode cL_law 270 = .ok (.iconst 1, 1) := by decide +kernel
theorem dL_law_271 : decode cL_law 271 = .ok (.iadd, 1) := by decide +kernel
theorem dL_law_272 : decode cL_law 272 = .ok (.iaload, 1) := by decide +kernel
theorem dL_law_273 : decode cL_law 273 = .ok (.aload_n 0, 1) := by decide +kernel
theorem dL_law_274 : decode cL_law 274 = .ok (.iload_n 3, 1) := by decide +kernel
theorem dL_law_275 : decode cL_law 275 = .ok (.iconst 2, 1) := by decide +kernel
theorem dL_law_276 : decode cL_law 276 = .ok (.iadd, 1) := by decide +kernel
theorem dL_law_277 : decode cL_law 277 = .ok (.iaload, 1) := by decide +kernel
theorem dL_law_278 : decode cL_law 278 = .ok (.invokevirtual 36, 3) := by decide +kernel
theorem dL_law_281 : decode cL_law 281 = .ok (.aload_n 2, 1) := by decide +kernel
theorem dL_law_282 : decode cL_law 282 = .ok (.aload_n 0, 1) := by decide +kernel
theorem dL_law_283 : decode cL_law 283 = .ok (.iload_n 3, 1) := by decide +kernel
theorem dL_law_284 : decode cL_law 284 = .ok (.iconst 1, 1) := by decide +kernel
theorem dL_law_285 : decode cL_law 285 = .ok (.iadd, 1) := by decide +kernel
theorem dL_law_286 : decode cL_law 286 = .ok (.iaload, 1) := by decide +kernel
theorem dL_law_287 : decode cL_law 287 = .ok (.aload_n 0, 1) := by decide +kernel
theorem dL_law_288 : decode cL_law 288 = .ok (.iload_n 3, 1) := by decide +kernel
theorem dL_law_289 : decode cL_law 289 = .ok (.iconst 2, 1) := by decide +kernel
theorem dL_law_290 : decode cL_law 290 = .ok (.iadd, 1) := by decide +kernel
theorem dL_law_291 : decode cL_law 291 = .ok (.iaload, 1) := by decide +kernel
theorem dL_law_292 : decode cL_law 292 = .ok (.invokevirtual 39, 3) := by decide +kernel
theorem dL_law_295 : decode cL_law 295 = .ok (.if_icmp .eq 660, 3) := by decide +kernel
theorem dL_law_298 : decode cL_law 298 = .ok (.iconst 0, 1) := by decide +kernel
theorem dL_law_299 : decode cL_law 299 = .ok (.ireturn, 1) := by decide +kernel
theorem dL_law_300 : decode cL_law 300 = .ok (.aload_n 1, 1) := by decide +kernel
theorem dL_law_301 : decode cL_law 301 = .ok (.aload_n 0, 1) := by decide +kernel
theorem dL_law_302 : decode cL_law 302 = .ok (.iload_n 3, 1) := by decide +kernel
theorem dL_law_303 : decode cL_law 303 = .ok (.iconst 1, 1) := by decide +kernel
theorem dL_law_304 : decode cL_law 304 = .ok (.iadd, 1) := by decide +kernel
theorem dL_law_305 : decode cL_law 305 = .ok (.iaload, 1) := by decide +kernel
theorem dL_law_306 : decode cL_law 306 = .ok (.aload_n 0, 1) := by decide +kernel
theorem dL_law_307 : decode cL_law 307 = .ok (.iload_n 3, 1) := by decide +kernel
theorem dL_law_308 : decode cL_law 308 = .ok (.iconst 2, 1) := by decide +kernel
theorem dL_law_309 : decode cL_law 309 = .ok (.iadd, 1) := by decide +kernel
theorem dL_law_310 : decode cL_law 310 = .ok (.iaload, 1) := by decide +kernel
theorem dL_law_311 : decode cL_law 311 = .ok (.invokevirtual 40, 3) := by decide +kernel
theorem dL_law_314 : decode cL_law 314 = .ok (.aload_n 2, 1) := by decide +kernel
theorem dL_law_315 : decode cL_law 315 = .ok (.aload_n 0, 1) := by decide +kernel
theorem dL_law_316 : decode cL_law 316 = .ok (.iload_n 3, 1) := by decide +kernel
theorem dL_law_317 : decode cL_law 317 = .ok (.iconst 1, 1) := by decide +kernel
theorem dL_law_318 : decode cL_law 318 = .ok (.iadd, 1) := by decide +kernel
theorem dL_law_319 : decode cL_law 319 = .ok (.iaload, 1) := by decide +kernel
theorem dL_law_320 : decode cL_law 320 = .ok (.aload_n 0, 1) := by decide +kernel
theorem dL_law_321 : decode cL_law 321 = .ok (.iload_n 3, 1) := by decide +kernel
theorem dL_law_322 : decode cL_law 322 = .ok (.iconst 2, 1) := by decide +kernel
theorem dL_law_323 : decode cL_law 323 = .ok (.iadd, 1) := by decide +kernel
theorem dL_law_324 : decode cL_law 324 = .ok (.iaload, 1) := by decide +kernel
theorem dL_law_325 : decode cL_law 325 = .ok (.invokevirtual 43, 3) := by decide +kernel
theorem dL_law_328 : decode cL_law 328 = .ok (.if_icmp .eq 627, 3) := by decide +kernel
theorem dL_law_331 : decode cL_law 331 = .ok (.iconst 0, 1) := by decide +kernel
theorem dL_law_332 : decode cL_law 332 = .ok (.ireturn, 1) := by decide +kernel
theorem dL_law_333 : decode cL_law 333 = .ok (.aload_n 1, 1) := by decide +kernel
theorem dL_law_334 : decode cL_law 334 = .ok (.aload_n 0, 1) := by decide +kernel
theorem dL_law_335 : decode cL_law 335 = .ok (.iload_n 3, 1) := by decide +kernel
theorem dL_law_336 : decode cL_law 336 = .ok (.iconst 1, 1) := by decide +kernel
theorem dL_law_337 : decode cL_law 337 = .ok (.iadd, 1) := by decide +kernel
theorem dL_law_338 : decode cL_law 338 = .ok (.iaload, 1) := by decide +kernel
theorem dL_law_339 : decode cL_law 339 = .ok (.aload_n 0, 1) := by decide +kernel
theorem dL_law_340 : decode cL_law 340 = .ok (.iload_n 3, 1) := by decide +kernel
theorem dL_law_341 : decode cL_law 341 = .ok (.iconst 2, 1) := by decide +kernel
theorem dL_law_342 : decode cL_law 342 = .ok (.iadd, 1) := by decide +kernel
theorem dL_law_343 : decode cL_law 343 = .ok (.iaload, 1) := by decide +kernel
theorem dL_law_344 : decode cL_law 344 = .ok (.invokevirtual 44, 3) := by decide +kernel
theorem dL_law_347 : decode cL_law 347 = .ok (.aload_n 2, 1) := by decide +kernel
theorem dL_law_348 : decode cL_law 348 = .ok (.aload_n 0, 1) := by decide +kernel
theorem dL_law_349 : decode cL_law 349 = .ok (.iload_n 3, 1) := by decide +kernel
theorem dL_law_350 : decode cL_law 350 = .ok (.iconst 1, 1) := by decide +kernel
theorem dL_law_351 : decode cL_law 351 = .ok (.iadd, 1) := by decide +kernel
theorem dL_law_352 : decode cL_law 352 = .ok (.iaload, 1) := by decide +kernel
theorem dL_law_353 : decode cL_law 353 = .ok (.aload_n 0, 1) := by decide +kernel
theorem dL_law_354 : decode cL_law 354 = .ok (.iload_n 3, 1) := by decide +kernel
theorem dL_law_355 : decode cL_law 355 = .ok (.iconst 2, 1) := by decide +kernel
theorem dL_law_356 : decode cL_law 356 = .ok (.iadd, 1) := by decide +kernel
theorem dL_law_357 : decode cL_law 357 = .ok (.iaload, 1) := by decide +kernel
theorem dL_law_358 : decode cL_law 358 = .ok (.invokevirtual 47, 3) := by decide +kernel
theorem dL_law_361 : decode cL_law 361 = .ok (.if_icmp .eq 594, 3) := by decide +kernel
theorem dL_law_364 : decode cL_law 364 = .ok (.iconst 0, 1) := by decide +kernel
theorem dL_law_365 : decode cL_law 365 = .ok (.ireturn, 1) := by decide +kernel
theorem dL_law_366 : decode cL_law 366 = .ok (.aload_n 1, 1) := by decide +kernel
theorem dL_law_367 : decode cL_law 367 = .ok (.aload_n 0, 1) := by decide +kernel
theorem dL_law_368 : decode cL_law 368 = .ok (.iload_n 3, 1) := by decide +kernel
theorem dL_law_369 : decode cL_law 369 = .ok (.iconst 1, 1) := by decide +kernel
theorem dL_law_370 : decode cL_law 370 = .ok (.iadd, 1) := by decide +kernel
theorem dL_law_371 : decode cL_law 371 = .ok (.iaload, 1) := by decide +kernel
theorem dL_law_372 : decode cL_law 372 = .ok (.aload_n 0, 1) := by decide +kernel
theorem dL_law_373 : decode cL_law 373 = .ok (.iload_n 3, 1) := by decide +kernel
theorem dL_law_374 : decode cL_law 374 = .ok (.iconst 2, 1) := by decide +kernel
theorem dL_law_375 : decode cL_law 375 = .ok (.iadd, 1) := by decide +kernel
theorem dL_law_376 : decode cL_law 376 = .ok (.iaload, 1) := by decide +kernel
theorem dL_law_377 : decode cL_law 377 = .ok (.invokevirtual 48, 3) := by decide +kernel
theorem dL_law_380 : decode cL_law 380 = .ok (.aload_n 2, 1) := by decide +kernel
theorem dL_law_381 : decode cL_law 381 = .ok (.aload_n 0, 1) := by decide +kernel
theorem dL_law_382 : decode cL_law 382 = .ok (.iload_n 3, 1) := by decide +kernel
theorem dL_law_383 : decode cL_law 383 = .ok (.iconst 1, 1) := by decide +kernel
theorem dL_law_384 : decode cL_law 384 = .ok (.iadd, 1) := by decide +kernel
theorem dL_law_385 : decode cL_law 385 = .ok (.iaload, 1) := by decide +kernel
theorem dL_law_386 : decode cL_law 386 = .ok (.aload_n 0, 1) := by decide +kernel
theorem dL_law_387 : decode cL_law 387 = .ok (.iload_n 3, 1) := by decide +kernel
theorem dL_law_388 : decode cL_law 388 = .ok (.iconst 2, 1) := by decide +kernel
theorem dL_law_389 : decode cL_law 389 = .ok (.iadd, 1) := by decide +kernel
theorem dL_law_390 : decode cL_law 390 = .ok (.iaload, 1) := by decide +kernel
theorem dL_law_391 : decode cL_law 391 = .ok (.invokevirtual 51, 3) := by decide +kernel
theorem dL_law_394 : decode cL_law 394 = .ok (.if_icmp .eq 561, 3) := by decide +kernel
theorem dL_law_397 : decode cL_law 397 = .ok (.iconst 0, 1) := by decide +kernel
theorem dL_law_398 : decode cL_law 398 = .ok (.ireturn, 1) := by decide +kernel
theorem dL_law_399 : decode cL_law 399 = .ok (.aload_n 1, 1) := by decide +kernel
theorem dL_law_400 : decode cL_law 400 = .ok (.aload_n 0, 1) := by decide +kernel
theorem dL_law_401 : decode cL_law 401 = .ok (.iload_n 3, 1) := by decide +kernel
theorem dL_law_402 : decode cL_law 402 = .ok (.iconst 1, 1) := by decide +kernel
theorem dL_law_403 : decode cL_law 403 = .ok (.iadd, 1) := by decide +kernel
theorem dL_law_404 : decode cL_law 404 = .ok (.iaload, 1) := by decide +kernel
theorem dL_law_405 : decode cL_law 405 = .ok (.aload_n 0, 1) := by decide +kernel
theorem dL_law_406 : decode cL_law 406 = .ok (.iload_n 3, 1) := by decide +kernel
theorem dL_law_407 : decode cL_law 407 = .ok (.iconst 2, 1) := by decide +kernel
theorem dL_law_408 : decode cL_law 408 = .ok (.iadd, 1) := by decide +kernel
theorem dL_law_409 : decode cL_law 409 = .ok (.iaload, 1) := by decide +kernel
theorem dL_law_410 : decode cL_law 410 = .ok (.invokevirtual 52, 3) := by decide +kernel
theorem dL_law_413 : decode cL_law 413 = .ok (.aload_n 2, 1) := by decide +kernel
theorem dL_law_414 : decode cL_law 414 = .ok (.aload_n 0, 1) := by decide +kernel
theorem dL_law_415 : decode cL_law 415 = .ok (.iload_n 3, 1) := by decide +kernel
theorem dL_law_416 : decode cL_law 416 = .ok (.iconst 1, 1) := by decide +kernel
theorem dL_law_417 : decode cL_law 417 = .ok (.iadd, 1) := by decide +kernel
theorem dL_law_418 : decode cL_law 418 = .ok (.iaload, 1) := by decide +kernel
theorem dL_law_419 : decode cL_law 419 = .ok (.aload_n 0, 1) := by decide +kernel
theorem dL_law_420 : decode cL_law 420 = .ok (.iload_n 3, 1) := by decide +kernel
theorem dL_law_421 : decode cL_law 421 = .ok (.iconst 2, 1) := by decide +kernel
theorem dL_law_422 : decode cL_law 422 = .ok (.iadd, 1) := by decide +kernel
theorem dL_law_423 : decode cL_law 423 = .ok (.iaload, 1) := by decide +kernel
theorem dL_law_424 : decode cL_law 424 = .ok (.invokevirtual 55, 3) := by decide +kernel
theorem dL_law_427 : decode cL_law 427 = .ok (.if_icmp .eq 528, 3) := by decide +kernel
theorem dL_law_430 : decode cL_law 430 = .ok (.iconst 0, 1) := by decide +kernel
theorem dL_law_431 : decode cL_law 431 = .ok (.ireturn, 1) := by decide +kernel
theorem dL_law_432 : decode cL_law 432 = .ok (.aload_n 1, 1) := by decide +kernel
theorem dL_law_433 : decode cL_law 433 = .ok (.aload_n 0, 1) := by decide +kernel
theorem dL_law_434 : decode cL_law 434 = .ok (.iload_n 3, 1) := by decide +kernel
theorem dL_law_435 : decode cL_law 435 = .ok (.iconst 1, 1) := by decide +kernel
theorem dL_law_436 : decode cL_law 436 = .ok (.iadd, 1) := by decide +kernel
theorem dL_law_437 : decode cL_law 437 = .ok (.iaload, 1) := by decide +kernel
theorem dL_law_438 : decode cL_law 438 = .ok (.invokevirtual 56, 3) := by decide +kernel
theorem dL_law_441 : decode cL_law 441 = .ok (.aload_n 2, 1) := by decide +kernel
theorem dL_law_442 : decode cL_law 442 = .ok (.aload_n 0, 1) := by decide +kernel
theorem dL_law_443 : decode cL_law 443 = .ok (.iload_n 3, 1) := by decide +kernel
theorem dL_law_444 : decode cL_law 444 = .ok (.iconst 1, 1) := by decide +kernel
theorem dL_law_445 : decode cL_law 445 = .ok (.iadd, 1) := by decide +kernel
theorem dL_law_446 : decode cL_law 446 = .ok (.iaload, 1) := by decide +kernel
theorem dL_law_447 : decode cL_law 447 = .ok (.invokevirtual 59, 3) := by decide +kernel
theorem dL_law_450 : decode cL_law 450 = .ok (.if_icmp .eq 505, 3) := by decide +kernel
theorem dL_law_453 : decode cL_law 453 = .ok (.iconst 0, 1) := by decide +kernel
theorem dL_law_454 : decode cL_law 454 = .ok (.ireturn, 1) := by decide +kernel
theorem dL_law_455 : decode cL_law 455 = .ok (.aload_n 1, 1) := by decide +kernel
theorem dL_law_456 : decode cL_law 456 = .ok (.invokevirtual 60, 3) := by decide +kernel
theorem dL_law_459 : decode cL_law 459 = .ok (.aload_n 2, 1) := by decide +kernel
theorem dL_law_460 : decode cL_law 460 = .ok (.invokevirtual 63, 3) := by decide +kernel
theorem dL_law_463 : decode cL_law 463 = .ok (.if_icmp .eq 492, 3) := by decide +kernel
theorem dL_law_466 : decode cL_law 466 = .ok (.iconst 0, 1) := by decide +kernel
theorem dL_law_467 : decode cL_law 467 = .ok (.ireturn, 1) := by decide +kernel
theorem dL_law_468 : decode cL_law 468 = .ok (.aload_n 1, 1) := by decide +kernel
theorem dL_law_469 : decode cL_law 469 = .ok (.aload_n 0, 1) := by decide +kernel
theorem dL_law_470 : decode cL_law 470 = .ok (.iload_n 3, 1) := by decide +kernel
theorem dL_law_471 : decode cL_law 471 = .ok (.iconst 1, 1) := by decide +kernel
theorem dL_law_472 : decode cL_law 472 = .ok (.iadd, 1) := by decide +kernel
theorem dL_law_473 : decode cL_law 473 = .ok (.iaload, 1) := by decide +kernel
theorem dL_law_474 : decode cL_law 474 = .ok (.aload_n 0, 1) := by decide +kernel
theorem dL_law_475 : decode cL_law 475 = .ok (.iload_n 3, 1) := by decide +kernel
theorem dL_law_476 : decode cL_law 476 = .ok (.iconst 2, 1) := by decide +kernel
theorem dL_law_477 : decode cL_law 477 = .ok (.iadd, 1) := by decide +kernel
theorem dL_law_478 : decode cL_law 478 = .ok (.iaload, 1) := by decide +kernel
theorem dL_law_479 : decode cL_law 479 = .ok (.aload_n 0, 1) := by decide +kernel
theorem dL_law_480 : decode cL_law 480 = .ok (.iload_n 3, 1) := by decide +kernel
theorem dL_law_481 : decode cL_law 481 = .ok (.iconst 3, 1) := by decide +kernel
theorem dL_law_482 : decode cL_law 482 = .ok (.iadd, 1) := by decide +kernel
theorem dL_law_483 : decode cL_law 483 = .ok (.iaload, 1) := by decide +kernel
theorem dL_law_484 : decode cL_law 484 = .ok (.invokevirtual 64, 3) := by decide +kernel
theorem dL_law_487 : decode cL_law 487 = .ok (.aload_n 2, 1) := by decide +kernel
theorem dL_law_488 : decode cL_law 488 = .ok (.aload_n 0, 1) := by decide +kernel
theorem dL_law_489 : decode cL_law 489 = .ok (.iload_n 3, 1) := by decide +kernel
theorem dL_law_490 : decode cL_law 490 = .ok (.iconst 1, 1) := by decide +kernel
theorem dL_law_491 : decode cL_law 491 = .ok (.iadd, 1) := by decide +kernel
theorem dL_law_492 : decode cL_law 492 = .ok (.iaload, 1) := by decide +kernel
theorem dL_law_493 : decode cL_law 493 = .ok (.aload_n 0, 1) := by decide +kernel
theorem dL_law_494 : decode cL_law 494 = .ok (.iload_n 3, 1) := by decide +kernel
theorem dL_law_495 : decode cL_law 495 = .ok (.iconst 2, 1) := by decide +kernel
theorem dL_law_496 : decode cL_law 496 = .ok (.iadd, 1) := by decide +kernel
theorem dL_law_497 : decode cL_law 497 = .ok (.iaload, 1) := by decide +kernel
theorem dL_law_498 : decode cL_law 498 = .ok (.aload_n 0, 1) := by decide +kernel
theorem dL_law_499 : decode cL_law 499 = .ok (.iload_n 3, 1) := by decide +kernel
theorem dL_law_500 : decode cL_law 500 = .ok (.iconst 3, 1) := by decide +kernel
theorem dL_law_501 : decode cL_law 501 = .ok (.iadd, 1) := by decide +kernel
theorem dL_law_502 : decode cL_law 502 = .ok (.iaload, 1) := by decide +kernel
theorem dL_law_503 : decode cL_law 503 = .ok (.invokevirtual 68, 3) := by decide +kernel
theorem dL_law_506 : decode cL_law 506 = .ok (.if_icmp .eq 449, 3) := by decide +kernel
theorem dL_law_509 : decode cL_law 509 = .ok (.iconst 0, 1) := by decide +kernel
theorem dL_law_510 : decode cL_law 510 = .ok (.ireturn, 1) := by decide +kernel
theorem dL_law_511 : decode cL_law 511 = .ok (.aload_n 1, 1) := by decide +kernel
theorem dL_law_512 : decode cL_law 512 = .ok (.aload_n 0, 1) := by decide +kernel
theorem dL_law_513 : decode cL_law 513 = .ok (.iload_n 3, 1) := by decide +kernel
theorem dL_law_514 : decode cL_law 514 = .ok (.iconst 1, 1) := by decide +kernel
theorem dL_law_515 : decode cL_law 515 = .ok (.iadd, 1) := by decide +kernel
theorem dL_law_516 : decode cL_law 516 = .ok (.iaload, 1) := by decide +kernel
theorem dL_law_517 : decode cL_law 517 = .ok (.invokevirtual 69, 3) := by decide +kernel
theorem dL_law_520 : decode cL_law 520 = .ok (.aload_n 2, 1) := by decide +kernel
theorem dL_law_521 : decode cL_law 521 = .ok (.aload_n 0, 1) := by decide +kernel
theorem dL_law_522 : decode cL_law 522 = .ok (.iload_n 3, 1) := by decide +kernel
theorem dL_law_523 : decode cL_law 523 = .ok (.iconst 1, 1) := by decide +kernel
theorem dL_law_524 : decode cL_law 524 = .ok (.iadd, 1) := by decide +kernel
theorem dL_law_525 : decode cL_law 525 = .ok (.iaload, 1) := by decide +kernel
theorem dL_law_526 : decode cL_law 526 = .ok (.invokevirtual 72, 3) := by decide +kernel
theorem dL_law_529 : decode cL_law 529 = .ok (.if_icmp .eq 426, 3) := by decide +kernel
theorem dL_law_532 : decode cL_law 532 = .ok (.iconst 0, 1) := by decide +kernel
theorem dL_law_533 : decode cL_law 533 = .ok (.ireturn, 1) := by decide +kernel
theorem dL_law_534 : decode cL_law 534 = .ok (.aload_n 1, 1) := by decide +kernel
theorem dL_law_535 : decode cL_law 535 = .ok (.aload_n 0, 1) := by decide +kernel
theorem dL_law_536 : decode cL_law 536 = .ok (.iload_n 3, 1) := by decide +kernel
theorem dL_law_537 : decode cL_law 537 = .ok (.iconst 1, 1) := by decide +kernel
theorem dL_law_538 : decode cL_law 538 = .ok (.iadd, 1) := by decide +kernel
theorem dL_law_539 : decode cL_law 539 = .ok (.iaload, 1) := by decide +kernel
theorem dL_law_540 : decode cL_law 540 = .ok (.aload_n 0, 1) := by decide +kernel
theorem dL_law_541 : decode cL_law 541 = .ok (.iload_n 3, 1) := by decide +kernel
theorem dL_law_542 : decode cL_law 542 = .ok (.iconst 2, 1) := by decide +kernel
theorem dL_law_543 : decode cL_law 543 = .ok (.iadd, 1) := by decide +kernel
theorem dL_law_544 : decode cL_law 544 = .ok (.iaload, 1) := by decide +kernel
theorem dL_law_545 : decode cL_law 545 = .ok (.invokevirtual 73, 3) := by decide +kernel
theorem dL_law_548 : decode cL_law 548 = .ok (.aload_n 2, 1) := by decide +kernel
theorem dL_law_549 : decode cL_law 549 = .ok (.aload_n 0, 1) := by decide +kernel
theorem dL_law_550 : decode cL_law 550 = .ok (.iload_n 3, 1) := by decide +kernel
theorem dL_law_551 : decode cL_law 551 = .ok (.iconst 1, 1) := by decide +kernel
theorem dL_law_552 : decode cL_law 552 = .ok (.iadd, 1) := by decide +kernel
theorem dL_law_553 : decode cL_law 553 = .ok (.iaload, 1) := by decide +kernel
theorem dL_law_554 : decode cL_law 554 = .ok (.aload_n 0, 1) := by decide +kernel
theorem dL_law_555 : decode cL_law 555 = .ok (.iload_n 3, 1) := by decide +kernel
theorem dL_law_556 : decode cL_law 556 = .ok (.iconst 2, 1) := by decide +kernel
theorem dL_law_557 : decode cL_law 557 = .ok (.iadd, 1) := by decide +kernel
theorem dL_law_558 : decode cL_law 558 = .ok (.iaload, 1) := by decide +kernel
theorem dL_law_559 : decode cL_law 559 = .ok (.invokevirtual 76, 3) := by decide +kernel
theorem dL_law_562 : decode cL_law 562 = .ok (.if_icmp .eq 393, 3) := by decide +kernel
theorem dL_law_565 : decode cL_law 565 = .ok (.iconst 0, 1) := by decide +kernel
theorem dL_law_566 : decode cL_law 566 = .ok (.ireturn, 1) := by decide +kernel
theorem dL_law_567 : decode cL_law 567 = .ok (.aload_n 1, 1) := by decide +kernel
theorem dL_law_568 : decode cL_law 568 = .ok (.invokevirtual 77, 3) := by decide +kernel
theorem dL_law_571 : decode cL_law 571 = .ok (.aload_n 2, 1) := by decide +kernel
theorem dL_law_572 : decode cL_law 572 = .ok (.invokevirtual 80, 3) := by decide +kernel
theorem dL_law_575 : decode cL_law 575 = .ok (.if_icmp .eq 380, 3) := by decide +kernel
theorem dL_law_578 : decode cL_law 578 = .ok (.iconst 0, 1) := by decide +kernel
theorem dL_law_579 : decode cL_law 579 = .ok (.ireturn, 1) := by decide +kernel
theorem dL_law_580 : decode cL_law 580 = .ok (.aload_n 1, 1) := by decide +kernel
theorem dL_law_581 : decode cL_law 581 = .ok (.invokevirtual 81, 3) := by decide +kernel
theorem dL_law_584 : decode cL_law 584 = .ok (.aload_n 2, 1) := by decide +kernel
theorem dL_law_585 : decode cL_law 585 = .ok (.invokevirtual 84, 3) := by decide +kernel
theorem dL_law_588 : decode cL_law 588 = .ok (.if_icmp .eq 367, 3) := by decide +kernel
theorem dL_law_591 : decode cL_law 591 = .ok (.iconst 0, 1) := by decide +kernel
theorem dL_law_592 : decode cL_law 592 = .ok (.ireturn, 1) := by decide +kernel
theorem dL_law_593 : decode cL_law 593 = .ok (.aload_n 1, 1) := by decide +kernel
theorem dL_law_594 : decode cL_law 594 = .ok (.aload_n 0, 1) := by decide +kernel
theorem dL_law_595 : decode cL_law 595 = .ok (.iload_n 3, 1) := by decide +kernel
theorem dL_law_596 : decode cL_law 596 = .ok (.iconst 1, 1) := by decide +kernel
theorem dL_law_597 : decode cL_law 597 = .ok (.iadd, 1) := by decide +kernel
theorem dL_law_598 : decode cL_law 598 = .ok (.iaload, 1) := by decide +kernel
theorem dL_law_599 : decode cL_law 599 = .ok (.invokevirtual 85, 3) := by decide +kernel
theorem dL_law_602 : decode cL_law 602 = .ok (.aload_n 2, 1) := by decide +kernel
theorem dL_law_603 : decode cL_law 603 = .ok (.aload_n 0, 1) := by decide +kernel
theorem dL_law_604 : decode cL_law 604 = .ok (.iload_n 3, 1) := by decide +kernel
theorem dL_law_605 : decode cL_law 605 = .ok (.iconst 1, 1) := by decide +kernel
theorem dL_law_606 : decode cL_law 606 = .ok (.iadd, 1) := by decide +kernel
theorem dL_law_607 : decode cL_law 607 = .ok (.iaload, 1) := by decide +kernel
theorem dL_law_608 : decode cL_law 608 = .ok (.invokevirtual 88, 3) := by decide +kernel
theorem dL_law_611 : decode cL_law 611 = .ok (.if_icmp .eq 344, 3) := by decide +kernel
theorem dL_law_614 : decode cL_law 614 = .ok (.iconst 0, 1) := by decide +kernel
theorem dL_law_615 : decode cL_law 615 = .ok (.ireturn, 1) := by decide +kernel
theorem dL_law_616 : decode cL_law 616 = .ok (.aload_n 1, 1) := by decide +kernel
theorem dL_law_617 : decode cL_law 617 = .ok (.aload_n 0, 1) := by decide +kernel
theorem dL_law_618 : decode cL_law 618 = .ok (.iload_n 3, 1) := by decide +kernel
theorem dL_law_619 : decode cL_law 619 = .ok (.iconst 1, 1) := by decide +kernel
theorem dL_law_620 : decode cL_law 620 = .ok (.iadd, 1) := by decide +kernel
theorem dL_law_621 : decode cL_law 621 = .ok (.iaload, 1) := by decide +kernel
theorem dL_law_622 : decode cL_law 622 = .ok (.invokevirtual 89, 3) := by decide +kernel
theorem dL_law_625 : decode cL_law 625 = .ok (.aload_n 2, 1) := by decide +kernel
theorem dL_law_626 : decode cL_law 626 = .ok (.aload_n 0, 1) := by decide +kernel
theorem dL_law_627 : decode cL_law 627 = .ok (.iload_n 3, 1) := by decide +kernel
theorem dL_law_628 : decode cL_law 628 = .ok (.iconst 1, 1) := by decide +kernel
theorem dL_law_629 : decode cL_law 629 = .ok (.iadd, 1) := by decide +kernel
theorem dL_law_630 : decode cL_law 630 = .ok (.iaload, 1) := by decide +kernel
theorem dL_law_631 : decode cL_law 631 = .ok (.invokevirtual 92, 3) := by decide +kernel
theorem dL_law_634 : decode cL_law 634 = .ok (.if_icmp .eq 321, 3) := by decide +kernel
theorem dL_law_637 : decode cL_law 637 = .ok (.iconst 0, 1) := by decide +kernel
theorem dL_law_638 : decode cL_law 638 = .ok (.ireturn, 1) := by decide +kernel
theorem dL_law_639 : decode cL_law 639 = .ok (.aload_n 1, 1) := by decide +kernel
theorem dL_law_640 : decode cL_law 640 = .ok (.aload_n 0, 1) := by decide +kernel
theorem dL_law_641 : decode cL_law 641 = .ok (.iload_n 3, 1) := by decide +kernel
theorem dL_law_642 : decode cL_law 642 = .ok (.iconst 1, 1) := by decide +kernel
theorem dL_law_643 : decode cL_law 643 = .ok (.iadd, 1) := by decide +kernel
theorem dL_law_644 : decode cL_law 644 = .ok (.iaload, 1) := by decide +kernel
theorem dL_law_645 : decode cL_law 645 = .ok (.aload_n 0, 1) := by decide +kernel
theorem dL_law_646 : decode cL_law 646 = .ok (.iload_n 3, 1) := by decide +kernel
theorem dL_law_647 : decode cL_law 647 = .ok (.iconst 2, 1) := by decide +kernel
theorem dL_law_648 : decode cL_law 648 = .ok (.iadd, 1) := by decide +kernel
theorem dL_law_649 : decode cL_law 649 = .ok (.iaload, 1) := by decide +kernel
theorem dL_law_650 : decode cL_law 650 = .ok (.invokevirtual 93, 3) := by decide +kernel
theorem dL_law_653 : decode cL_law 653 = .ok (.aload_n 2, 1) := by decide +kernel
theorem dL_law_654 : decode cL_law 654 = .ok (.aload_n 0, 1) := by decide +kernel
theorem dL_law_655 : decode cL_law 655 = .ok (.iload_n 3, 1) := by decide +kernel
theorem dL_law_656 : decode cL_law 656 = .ok (.iconst 1, 1) := by decide +kernel
theorem dL_law_657 : decode cL_law 657 = .ok (.iadd, 1) := by decide +kernel
theorem dL_law_658 : decode cL_law 658 = .ok (.iaload, 1) := by decide +kernel
theorem dL_law_659 : decode cL_law 659 = .ok (.aload_n 0, 1) := by decide +kernel
theorem dL_law_660 : decode cL_law 660 = .ok (.iload_n 3, 1) := by decide +kernel
theorem dL_law_661 : decode cL_law 661 = .ok (.iconst 2, 1) := by decide +kernel
theorem dL_law_662 : decode cL_law 662 = .ok (.iadd, 1) := by decide +kernel
theorem dL_law_663 : decode cL_law 663 = .ok (.iaload, 1) := by decide +kernel
theorem dL_law_664 : decode cL_law 664 = .ok (.invokevirtual 96, 3) := by decide +kernel
theorem dL_law_667 : decode cL_law 667 = .ok (.if_icmp .eq 288, 3) := by decide +kernel
theorem dL_law_670 : decode cL_law 670 = .ok (.iconst 0, 1) := by decide +kernel
theorem dL_law_671 : decode cL_law 671 = .ok (.ireturn, 1) := by decide +kernel
theorem dL_law_672 : decode cL_law 672 = .ok (.aload_n 1, 1) := by decide +kernel
theorem dL_law_673 : decode cL_law 673 = .ok (.aload_n 0, 1) := by decide +kernel
theorem dL_law_674 : decode cL_law 674 = .ok (.iload_n 3, 1) := by decide +kernel
theorem dL_law_675 : decode cL_law 675 = .ok (.iconst 1, 1) := by decide +kernel
theorem dL_law_676 : decode cL_law 676 = .ok (.iadd, 1) := by decide +kernel
theorem dL_law_677 : decode cL_law 677 = .ok (.iaload, 1) := by decide +kernel
theorem dL_law_678 : decode cL_law 678 = .ok (.invokevirtual 97, 3) := by decide +kernel
theorem dL_law_681 : decode cL_law 681 = .ok (.aload_n 2, 1) := by decide +kernel
theorem dL_law_682 : decode cL_law 682 = .ok (.aload_n 0, 1) := by decide +kernel
theorem dL_law_683 : decode cL_law 683 = .ok (.iload_n 3, 1) := by decide +kernel
theorem dL_law_684 : decode cL_law 684 = .ok (.iconst 1, 1) := by decide +kernel
theorem dL_law_685 : decode cL_law 685 = .ok (.iadd, 1) := by decide +kernel
theorem dL_law_686 : decode cL_law 686 = .ok (.iaload, 1) := by decide +kernel
theorem dL_law_687 : decode cL_law 687 = .ok (.invokevirtual 100, 3) := by decide +kernel
theorem dL_law_690 : decode cL_law 690 = .ok (.if_icmp .eq 265, 3) := by decide +kernel
theorem dL_law_693 : decode cL_law 693 = .ok (.iconst 0, 1) := by decide +kernel
theorem dL_law_694 : decode cL_law 694 = .ok (.ireturn, 1) := by decide +kernel
theorem dL_law_695 : decode cL_law 695 = .ok (.aload_n 1, 1) := by decide +kernel
theorem dL_law_696 : decode cL_law 696 = .ok (.aload_n 0, 1) := by decide +kernel
theorem dL_law_697 : decode cL_law 697 = .ok (.iload_n 3, 1) := by decide +kernel
theorem dL_law_698 : decode cL_law 698 = .ok (.iconst 1, 1) := by decide +kernel
theorem dL_law_699 : decode cL_law 699 = .ok (.iadd, 1) := by decide +kernel
theorem dL_law_700 : decode cL_law 700 = .ok (.iaload, 1) := by decide +kernel
theorem dL_law_701 : decode cL_law 701 = .ok (.invokevirtual 101, 3) := by decide +kernel
theorem dL_law_704 : decode cL_law 704 = .ok (.aload_n 2, 1) := by decide +kernel
theorem dL_law_705 : decode cL_law 705 = .ok (.aload_n 0, 1) := by decide +kernel
theorem dL_law_706 : decode cL_law 706 = .ok (.iload_n 3, 1) := by decide +kernel
theorem dL_law_707 : decode cL_law 707 = .ok (.iconst 1, 1) := by decide +kernel
theorem dL_law_708 : decode cL_law 708 = .ok (.iadd, 1) := by decide +kernel
theorem dL_law_709 : decode cL_law 709 = .ok (.iaload, 1) := by decide +kernel
theorem dL_law_710 : decode cL_law 710 = .ok (.invokevirtual 104, 3) := by decide +kernel
theorem dL_law_713 : decode cL_law 713 = .ok (.if_icmp .eq 242, 3) := by decide +kernel
theorem dL_law_716 : decode cL_law 716 = .ok (.iconst 0, 1) := by decide +kernel
theorem dL_law_717 : decode cL_law 717 = .ok (.ireturn, 1) := by decide +kernel
theorem dL_law_718 : decode cL_law 718 = .ok (.aload_n 1, 1) := by decide +kernel
theorem dL_law_719 : decode cL_law 719 = .ok (.aload_n 0, 1) := by decide +kernel
theorem dL_law_720 : decode cL_law 720 = .ok (.iload_n 3, 1) := by decide +kernel
theorem dL_law_721 : decode cL_law 721 = .ok (.iconst 1, 1) := by decide +kernel
theorem dL_law_722 : decode cL_law 722 = .ok (.iadd, 1) := by decide +kernel
theorem dL_law_723 : decode cL_law 723 = .ok (.iaload, 1) := by decide +kernel
theorem dL_law_724 : decode cL_law 724 = .ok (.aload_n 0, 1) := by decide +kernel
theorem dL_law_725 : decode cL_law 725 = .ok (.iload_n 3, 1) := by decide +kernel
theorem dL_law_726 : decode cL_law 726 = .ok (.iconst 2, 1) := by decide +kernel
theorem dL_law_727 : decode cL_law 727 = .ok (.iadd, 1) := by decide +kernel
theorem dL_law_728 : decode cL_law 728 = .ok (.iaload, 1) := by decide +kernel
theorem dL_law_729 : decode cL_law 729 = .ok (.aload_n 0, 1) := by decide +kernel
theorem dL_law_730 : decode cL_law 730 = .ok (.iload_n 3, 1) := by decide +kernel
theorem dL_law_731 : decode cL_law 731 = .ok (.iconst 3, 1) := by decide +kernel
theorem dL_law_732 : decode cL_law 732 = .ok (.iadd, 1) := by decide +kernel
theorem dL_law_733 : decode cL_law 733 = .ok (.iaload, 1) := by decide +kernel
theorem dL_law_734 : decode cL_law 734 = .ok (.invokevirtual 105, 3) := by decide +kernel
theorem dL_law_737 : decode cL_law 737 = .ok (.aload_n 2, 1) := by decide +kernel
theorem dL_law_738 : decode cL_law 738 = .ok (.aload_n 0, 1) := by decide +kernel
theorem dL_law_739 : decode cL_law 739 = .ok (.iload_n 3, 1) := by decide +kernel
theorem dL_law_740 : decode cL_law 740 = .ok (.iconst 1, 1) := by decide +kernel
theorem dL_law_741 : decode cL_law 741 = .ok (.iadd, 1) := by decide +kernel
theorem dL_law_742 : decode cL_law 742 = .ok (.iaload, 1) := by decide +kernel
theorem dL_law_743 : decode cL_law 743 = .ok (.aload_n 0, 1) := by decide +kernel
theorem dL_law_744 : decode cL_law 744 = .ok (.iload_n 3, 1) := by decide +kernel
theorem dL_law_745 : decode cL_law 745 = .ok (.iconst 2, 1) := by decide +kernel
theorem dL_law_746 : decode cL_law 746 = .ok (.iadd, 1) := by decide +kernel
theorem dL_law_747 : decode cL_law 747 = .ok (.iaload, 1) := by decide +kernel
theorem dL_law_748 : decode cL_law 748 = .ok (.aload_n 0, 1) := by decide +kernel
theorem dL_law_749 : decode cL_law 749 = .ok (.iload_n 3, 1) := by decide +kernel
theorem dL_law_750 : decode cL_law 750 = .ok (.iconst 3, 1) := by decide +kernel
theorem dL_law_751 : decode cL_law 751 = .ok (.iadd, 1) := by decide +kernel
theorem dL_law_752 : decode cL_law 752 = .ok (.iaload, 1) := by decide +kernel
theorem dL_law_753 : decode cL_law 753 = .ok (.invokevirtual 108, 3) := by decide +kernel
theorem dL_law_756 : decode cL_law 756 = .ok (.if_icmp .eq 199, 3) := by decide +kernel
theorem dL_law_759 : decode cL_law 759 = .ok (.iconst 0, 1) := by decide +kernel
theorem dL_law_760 : decode cL_law 760 = .ok (.ireturn, 1) := by decide +kernel
theorem dL_law_761 : decode cL_law 761 = .ok (.aload_n 1, 1) := by decide +kernel
theorem dL_law_762 : decode cL_law 762 = .ok (.invokevirtual 109, 3) := by decide +kernel
theorem dL_law_765 : decode cL_law 765 = .ok (.aload_n 2, 1) := by decide +kernel
theorem dL_law_766 : decode cL_law 766 = .ok (.invokevirtual 112, 3) := by decide +kernel
theorem dL_law_769 : decode cL_law 769 = .ok (.if_icmp .eq 186, 3) := by decide +kernel
theorem dL_law_772 : decode cL_law 772 = .ok (.iconst 0, 1) := by decide +kernel
theorem dL_law_773 : decode cL_law 773 = .ok (.ireturn, 1) := by decide +kernel
theorem dL_law_774 : decode cL_law 774 = .ok (.aload_n 1, 1) := by decide +kernel
theorem dL_law_775 : decode cL_law 775 = .ok (.aload_n 0, 1) := by decide +kernel
theorem dL_law_776 : decode cL_law 776 = .ok (.iload_n 3, 1) := by decide +kernel
theorem dL_law_777 : decode cL_law 777 = .ok (.iconst 1, 1) := by decide +kernel
theorem dL_law_778 : decode cL_law 778 = .ok (.iadd, 1) := by decide +kernel
theorem dL_law_779 : decode cL_law 779 = .ok (.iaload, 1) := by decide +kernel
theorem dL_law_780 : decode cL_law 780 = .ok (.invokevirtual 113, 3) := by decide +kernel
theorem dL_law_783 : decode cL_law 783 = .ok (.aload_n 2, 1) := by decide +kernel
theorem dL_law_784 : decode cL_law 784 = .ok (.aload_n 0, 1) := by decide +kernel
theorem dL_law_785 : decode cL_law 785 = .ok (.iload_n 3, 1) := by decide +kernel
theorem dL_law_786 : decode cL_law 786 = .ok (.iconst 1, 1) := by decide +kernel
theorem dL_law_787 : decode cL_law 787 = .ok (.iadd, 1) := by decide +kernel
theorem dL_law_788 : decode cL_law 788 = .ok (.iaload, 1) := by decide +kernel
theorem dL_law_789 : decode cL_law 789 = .ok (.invokevirtual 116, 3) := by decide +kernel
theorem dL_law_792 : decode cL_law 792 = .ok (.if_icmp .eq 163, 3) := by decide +kernel
theorem dL_law_795 : decode cL_law 795 = .ok (.iconst 0, 1) := by decide +kernel
theorem dL_law_796 : decode cL_law 796 = .ok (.ireturn, 1) := by decide +kernel
theorem dL_law_797 : decode cL_law 797 = .ok (.aload_n 1, 1) := by decide +kernel
theorem dL_law_798 : decode cL_law 798 = .ok (.aload_n 0, 1) := by decide +kernel
theorem dL_law_799 : decode cL_law 799 = .ok (.iload_n 3, 1) := by decide +kernel
theorem dL_law_800 : decode cL_law 800 = .ok (.iconst 1, 1) := by decide +kernel
theorem dL_law_801 : decode cL_law 801 = .ok (.iadd, 1) := by decide +kernel
theorem dL_law_802 : decode cL_law 802 = .ok (.iaload, 1) := by decide +kernel
theorem dL_law_803 : decode cL_law 803 = .ok (.aload_n 0, 1) := by decide +kernel
theorem dL_law_804 : decode cL_law 804 = .ok (.iload_n 3, 1) := by decide +kernel
theorem dL_law_805 : decode cL_law 805 = .ok (.iconst 2, 1) := by decide +kernel
theorem dL_law_806 : decode cL_law 806 = .ok (.iadd, 1) := by decide +kernel
theorem dL_law_807 : decode cL_law 807 = .ok (.iaload, 1) := by decide +kernel
theorem dL_law_808 : decode cL_law 808 = .ok (.invokevirtual 117, 3) := by decide +kernel
theorem dL_law_811 : decode cL_law 811 = .ok (.aload_n 2, 1) := by decide +kernel
theorem dL_law_812 : decode cL_law 812 = .ok (.aload_n 0, 1) := by decide +kernel
theorem dL_law_813 : decode cL_law 813 = .ok (.iload_n 3, 1) := by decide +kernel
theorem dL_law_814 : decode cL_law 814 = .ok (.iconst 1, 1) := by decide +kernel
theorem dL_law_815 : decode cL_law 815 = .ok (.iadd, 1) := by decide +kernel
theorem dL_law_816 : decode cL_law 816 = .ok (.iaload, 1) := by decide +kernel
theorem dL_law_817 : decode cL_law 817 = .ok (.aload_n 0, 1) := by decide +kernel
theorem dL_law_818 : decode cL_law 818 = .ok (.iload_n 3, 1) := by decide +kernel
theorem dL_law_819 : decode cL_law 819 = .ok (.iconst 2, 1) := by decide +kernel
theorem dL_law_820 : decode cL_law 820 = .ok (.iadd, 1) := by decide +kernel
theorem dL_law_821 : decode cL_law 821 = .ok (.iaload, 1) := by decide +kernel
theorem dL_law_822 : decode cL_law 822 = .ok (.invokevirtual 120, 3) := by decide +kernel
theorem dL_law_825 : decode cL_law 825 = .ok (.if_icmp .eq 130, 3) := by decide +kernel
theorem dL_law_828 : decode cL_law 828 = .ok (.iconst 0, 1) := by decide +kernel
theorem dL_law_829 : decode cL_law 829 = .ok (.ireturn, 1) := by decide +kernel
theorem dL_law_830 : decode cL_law 830 = .ok (.aload_n 1, 1) := by decide +kernel
theorem dL_law_831 : decode cL_law 831 = .ok (.aload_n 0, 1) := by decide +kernel
theorem dL_law_832 : decode cL_law 832 = .ok (.iload_n 3, 1) := by decide +kernel
theorem dL_law_833 : decode cL_law 833 = .ok (.iconst 1, 1) := by decide +kernel
theorem dL_law_834 : decode cL_law 834 = .ok (.iadd, 1) := by decide +kernel
theorem dL_law_835 : decode cL_law 835 = .ok (.iaload, 1) := by decide +kernel
theorem dL_law_836 : decode cL_law 836 = .ok (.aload_n 0, 1) := by decide +kernel
theorem dL_law_837 : decode cL_law 837 = .ok (.iload_n 3, 1) := by decide +kernel
theorem dL_law_838 : decode cL_law 838 = .ok (.iconst 2, 1) := by decide +kernel
theorem dL_law_839 : decode cL_law 839 = .ok (.iadd, 1) := by decide +kernel
theorem dL_law_840 : decode cL_law 840 = .ok (.iaload, 1) := by decide +kernel
theorem dL_law_841 : decode cL_law 841 = .ok (.aload_n 0, 1) := by decide +kernel
theorem dL_law_842 : decode cL_law 842 = .ok (.iload_n 3, 1) := by decide +kernel
theorem dL_law_843 : decode cL_law 843 = .ok (.iconst 3, 1) := by decide +kernel
theorem dL_law_844 : decode cL_law 844 = .ok (.iadd, 1) := by decide +kernel
theorem dL_law_845 : decode cL_law 845 = .ok (.iaload, 1) := by decide +kernel
theorem dL_law_846 : decode cL_law 846 = .ok (.invokevirtual 121, 3) := by decide +kernel
theorem dL_law_849 : decode cL_law 849 = .ok (.aload_n 2, 1) := by decide +kernel
theorem dL_law_850 : decode cL_law 850 = .ok (.aload_n 0, 1) := by decide +kernel
theorem dL_law_851 : decode cL_law 851 = .ok (.iload_n 3, 1) := by decide +kernel
theorem dL_law_852 : decode cL_law 852 = .ok (.iconst 1, 1) := by decide +kernel
theorem dL_law_853 : decode cL_law 853 = .ok (.iadd, 1) := by decide +kernel
theorem dL_law_854 : decode cL_law 854 = .ok (.iaload, 1) := by decide +kernel
theorem dL_law_855 : decode cL_law 855 = .ok (.aload_n 0, 1) := by decide +kernel
theorem dL_law_856 : decode cL_law 856 = .ok (.iload_n 3, 1) := by decide +kernel
theorem dL_law_857 : decode cL_law 857 = .ok (.iconst 2, 1) := by decide +kernel
theorem dL_law_858 : decode cL_law 858 = .ok (.iadd, 1) := by decide +kernel
theorem dL_law_859 : decode cL_law 859 = .ok (.iaload, 1) := by decide +kernel
theorem dL_law_860 : decode cL_law 860 = .ok (.aload_n 0, 1) := by decide +kernel
theorem dL_law_861 : decode cL_law 861 = .ok (.iload_n 3, 1) := by decide +kernel
theorem dL_law_862 : decode cL_law 862 = .ok (.iconst 3, 1) := by decide +kernel
theorem dL_law_863 : decode cL_law 863 = .ok (.iadd, 1) := by decide +kernel
theorem dL_law_864 : decode cL_law 864 = .ok (.iaload, 1) := by decide +kernel
theorem dL_law_865 : decode cL_law 865 = .ok (.invokevirtual 124, 3) := by decide +kernel
theorem dL_law_868 : decode cL_law 868 = .ok (.if_icmp .eq 87, 3) := by decide +kernel
theorem dL_law_871 : decode cL_law 871 = .ok (.iconst 0, 1) := by decide +kernel
theorem dL_law_872 : decode cL_law 872 = .ok (.ireturn, 1) := by decide +kernel
theorem dL_law_873 : decode cL_law 873 = .ok (.aload_n 1, 1) := by decide +kernel
theorem dL_law_874 : decode cL_law 874 = .ok (.aload_n 0, 1) := by decide +kernel
theorem dL_law_875 : decode cL_law 875 = .ok (.iload_n 3, 1) := by decide +kernel
theorem dL_law_876 : decode cL_law 876 = .ok (.iconst 1, 1) := by decide +kernel
theorem dL_law_877 : decode cL_law 877 = .ok (.iadd, 1) := by decide +kernel
theorem dL_law_878 : decode cL_law 878 = .ok (.iaload, 1) := by decide +kernel
theorem dL_law_879 : decode cL_law 879 = .ok (.aload_n 0, 1) := by decide +kernel
theorem dL_law_880 : decode cL_law 880 = .ok (.iload_n 3, 1) := by decide +kernel
theorem dL_law_881 : decode cL_law 881 = .ok (.iconst 2, 1) := by decide +kernel
theorem dL_law_882 : decode cL_law 882 = .ok (.iadd, 1) := by decide +kernel
theorem dL_law_883 : decode cL_law 883 = .ok (.iaload, 1) := by decide +kernel
theorem dL_law_884 : decode cL_law 884 = .ok (.invokevirtual 125, 3) := by decide +kernel
theorem dL_law_887 : decode cL_law 887 = .ok (.aload_n 2, 1) := by decide +kernel
theorem dL_law_888 : decode cL_law 888 = .ok (.aload_n 0, 1) := by decide +kernel
theorem dL_law_889 : decode cL_law 889 = .ok (.iload_n 3, 1) := by decide +kernel
theorem dL_law_890 : decode cL_law 890 = .ok (.iconst 1, 1) := by decide +kernel
theorem dL_law_891 : decode cL_law 891 = .ok (.iadd, 1) := by decide +kernel
theorem dL_law_892 : decode cL_law 892 = .ok (.iaload, 1) := by decide +kernel
theorem dL_law_893 : decode cL_law 893 = .ok (.aload_n 0, 1) := by decide +kernel
theorem dL_law_894 : decode cL_law 894 = .ok (.iload_n 3, 1) := by decide +kernel
theorem dL_law_895 : decode cL_law 895 = .ok (.iconst 2, 1) := by decide +kernel
theorem dL_law_896 : decode cL_law 896 = .ok (.iadd, 1) := by decide +kernel
theorem dL_law_897 : decode cL_law 897 = .ok (.iaload, 1) := by decide +kernel
theorem dL_law_898 : decode cL_law 898 = .ok (.invokevirtual 128, 3) := by decide +kernel
theorem dL_law_901 : decode cL_law 901 = .ok (.if_icmp .eq 54, 3) := by decide +kernel
theorem dL_law_904 : decode cL_law 904 = .ok (.iconst 0, 1) := by decide +kernel
theorem dL_law_905 : decode cL_law 905 = .ok (.ireturn, 1) := by decide +kernel
theorem dL_law_906 : decode cL_law 906 = .ok (.aload_n 1, 1) := by decide +kernel
theorem dL_law_907 : decode cL_law 907 = .ok (.invokevirtual 129, 3) := by decide +kernel
theorem dL_law_910 : decode cL_law 910 = .ok (.aload_n 2, 1) := by decide +kernel
theorem dL_law_911 : decode cL_law 911 = .ok (.invokevirtual 132, 3) := by decide +kernel
theorem dL_law_914 : decode cL_law 914 = .ok (.if_icmp .eq 41, 3) := by decide +kernel
theorem dL_law_917 : decode cL_law 917 = .ok (.iconst 0, 1) := by decide +kernel
theorem dL_law_918 : decode cL_law 918 = .ok (.ireturn, 1) := by decide +kernel
theorem dL_law_919 : decode cL_law 919 = .ok (.aload_n 1, 1) := by decide +kernel
theorem dL_law_920 : decode cL_law 920 = .ok (.invokevirtual 133, 3) := by decide +kernel
theorem dL_law_923 : decode cL_law 923 = .ok (.aload_n 2, 1) := by decide +kernel
theorem dL_law_924 : decode cL_law 924 = .ok (.invokevirtual 136, 3) := by decide +kernel
theorem dL_law_927 : decode cL_law 927 = .ok (.if_icmp .eq 28, 3) := by decide +kernel
theorem dL_law_930 : decode cL_law 930 = .ok (.iconst 0, 1) := by decide +kernel
theorem dL_law_931 : decode cL_law 931 = .ok (.ireturn, 1) := by decide +kernel
theorem dL_law_932 : decode cL_law 932 = .ok (.aload_n 1, 1) := by decide +kernel
theorem dL_law_933 : decode cL_law 933 = .ok (.aload_n 0, 1) := by decide +kernel
theorem dL_law_934 : decode cL_law 934 = .ok (.iload_n 3, 1) := by decide +kernel
theorem dL_law_935 : decode cL_law 935 = .ok (.iconst 1, 1) := by decide +kernel
theorem dL_law_936 : decode cL_law 936 = .ok (.iadd, 1) := by decide +kernel
theorem dL_law_937 : decode cL_law 937 = .ok (.iaload, 1) := by decide +kernel
theorem dL_law_938 : decode cL_law 938 = .ok (.invokevirtual 137, 3) := by decide +kernel
theorem dL_law_941 : decode cL_law 941 = .ok (.aload_n 2, 1) := by decide +kernel
theorem dL_law_942 : decode cL_law 942 = .ok (.aload_n 0, 1) := by decide +kernel
theorem dL_law_943 : decode cL_law 943 = .ok (.iload_n 3, 1) := by decide +kernel
theorem dL_law_944 : decode cL_law 944 = .ok (.iconst 1, 1) := by decide +kernel
theorem dL_law_945 : decode cL_law 945 = .ok (.iadd, 1) := by decide +kernel
theorem dL_law_946 : decode cL_law 946 = .ok (.iaload, 1) := by decide +kernel
theorem dL_law_947 : decode cL_law 947 = .ok (.invokevirtual 140, 3) := by decide +kernel
theorem dL_law_950 : decode cL_law 950 = .ok (.if_icmp .eq 5, 3) := by decide +kernel
theorem dL_law_953 : decode cL_law 953 = .ok (.iconst 0, 1) := by decide +kernel
theorem dL_law_954 : decode cL_law 954 = .ok (.ireturn, 1) := by decide +kernel
theorem dL_law_955 : decode cL_law 955 = .ok (.iinc 3 4, 3) := by decide +kernel
theorem dL_law_958 : decode cL_law 958 = .ok (.goto (-940), 3) := by decide +kernel
theorem dL_law_961 : decode cL_law 961 = .ok (.iconst 1, 1) := by decide +kernel
theorem dL_law_962 : decode cL_law 962 = .ok (.ireturn, 1) := by decide +kernel
end
section
/-! THE PICTURE: one memory for the whole run. I: what int places hold, F: what reference places hold, by (cell, place); sh: the kind and the length of each cell, in the order in which they were made. rho: the real address of a cell; ga: the class of an array cell. -/
abbrev AI : Type := Nat → Nat → Int32
abbrev AR : Type := Nat → Nat → Option Nat
abbrev AS : Type := List (Nat × Nat)
/-- a method: its name, bytes, locals, what it returns, frames and locals' words that it needs, and which extras its body leans on -/
abbrev ZM : Type := MethodName × ByteArray × Nat × Option FieldType × Nat × Nat × Nat
def zTy (c : Nat) : Nat → FieldType := match c with
  | 0 => tyX0 | 1 => tyX1 | 2 => tyX2 | 3 => tyX3 | 4 => tyX4 | 5 => tyX5 | 6 => tyX6 | 7 => tyX7 | 8 => tyX8 | 9 => tyX9 | 10 => tyX10 | 11 => tyX11 | _ => tyX12
def zTb (c : Nat) : u_T := match c with
  | 0 => TX0 | 1 => TX1 | 2 => TX2 | 3 => TX3 | 4 => TX4 | 5 => TX5 | 6 => TX6 | 7 => TX7 | 8 => TX8 | 9 => TX9 | 10 => TX10 | 11 => TX11 | _ => TX12
def zNf (c : Nat) : Nat := match c with
  | 0 => 7 | 1 => 2 | 2 => 3 | 3 => 3 | 4 => 4 | 5 => 4 | 6 => 6 | 7 => 2 | 8 => 6 | 9 => 7 | 10 => 5 | 11 => 13 | _ => 34
def zRn (c : Nat) : String := match c with
  | 0 => RX0 | 1 => RX1 | 2 => RX2 | 3 => RX3 | 4 => RX4 | 5 => RX5 | 6 => RX6 | 7 => RX7 | 8 => RX8 | 9 => RX9 | 10 => RX10 | 11 => RX11 | _ => RX12
/-- what an array of a kind holds -/
def zKt (k : Nat) : FieldType := match k with
  | 13 => .byte | 14 => .char | 15 => .int | 16 => .boolean | 17 => .object "LostAndTaxed$Signs" | _ => .array .int
theorem z13 {P : Nat → Prop} {c : Nat} (h : c < 13) (h0 : P 0) (h1 : P 1) (h2 : P 2) (h3 : P 3) (h4 : P 4) (h5 : P 5) (h6 : P 6) (h7 : P 7) (h8 : P 8) (h9 : P 9) (h10 : P 10) (h11 : P 11) (h12 : P 12) : P c := by
  match c, h with
  | 0, _ => exact h0
  | 1, _ => exact h1
  | 2, _ => exact h2
  | 3, _ => exact h3
  | 4, _ => exact h4
  | 5, _ => exact h5
  | 6, _ => exact h6
  | 7, _ => exact h7
  | 8, _ => exact h8
  | 9, _ => exact h9
  | 10, _ => exact h10
  | 11, _ => exact h11
  | 12, _ => exact h12
theorem z_cl {c : Nat} (h : c < 13) : vwCl[c]? = some (zRn c, zTb c, zNf c) := z13 (P := fun c => vwCl[c]? = some (zRn c, zTb c, zNf c)) h rfl rfl rfl rfl rfl rfl rfl rfl rfl rfl rfl rfl rfl
theorem z_ty {c : Nat} (h : c < 13) : ∀ k, k < zNf c → parseFieldDescriptor (zTb c k).2.2.1 = some (zTy c k) := z13 (P := fun c => ∀ k, k < zNf c → parseFieldDescriptor (zTb c k).2.2.1 = some (zTy c k)) h tyX0_ok tyX1_ok tyX2_ok tyX3_ok tyX4_ok tyX5_ok tyX6_ok tyX7_ok tyX8_ok tyX9_ok tyX10_ok tyX11_ok tyX12_ok
theorem z_nm {c : Nat} (h : c < 13) : ∀ a, a < zNf c → ∀ b, b < zNf c → a ≠ b → (zTb c a).2.1 ≠ (zTb c b).2.1 := z13 (P := fun c => ∀ a, a < zNf c → ∀ b, b < zNf c → a ≠ b → (zTb c a).2.1 ≠ (zTb c b).2.1) h nmX0 nmX1 nmX2 nmX3 nmX4 nmX5 nmX6 nmX7 nmX8 nmX9 nmX10 nmX11 nmX12
/-- the words that every method may lean on -/
def zT : List Cond := lw_tbl.filter goodWord
abbrev zws (M : ZM) : List Cond := .code M.1 M.2.1 M.2.2.1 M.2.2.2.1 :: zT
theorem z_goodT {w : Cond} (h : w ∈ zT) : w ∈ lw_tbl ∧ ((w.onTables && w.keeps) = true ∨ ∃ ty, w = .arrayClass ty) := ⟨(List.mem_filter.mp h).1, good_of_word (List.mem_filter.mp h).2⟩
theorem zT_in {w : Cond} (i : Nat) (h : lw_tbl[i]? = some w) (hg : goodWord w = true) : w ∈ zT := List.mem_filter.mpr ⟨List.mem_of_getElem? h, hg⟩
theorem z_goodIn {M N : ZM} (h : Cond.code N.1 N.2.1 N.2.2.1 N.2.2.2.1 ∈ zT) : GoodIn (zws M) (zws N) := by
  intro w hw
  rcases List.mem_cons.mp hw with rfl | hw
  · exact ⟨List.mem_cons_of_mem _ h, (z_goodT h).2⟩
  · exact ⟨List.mem_cons_of_mem _ hw, (z_goodT hw).2⟩
theorem z_goodL {N : ZM} (h : Cond.code N.1 N.2.1 N.2.2.1 N.2.2.2.1 ∈ zT) : GoodIn lw_tbl (zws N) := by
  intro w hw
  rcases List.mem_cons.mp hw with rfl | hw
  · exact z_goodT h
  · exact z_goodT hw
def zws_u : List Cond := u_ws RX0 TX0 7 ++ u_ws RX1 TX1 2 ++ u_ws RX2 TX2 3 ++ u_ws RX3 TX3 3 ++ u_ws RX4 TX4 4 ++ u_ws RX5 TX5 4 ++ u_ws RX6 TX6 6 ++ u_ws RX7 TX7 2 ++ u_ws RX8 TX8 6 ++ u_ws RX9 TX9 7 ++ u_ws RX10 TX10 5 ++ u_ws RX11 TX11 13 ++ u_ws RX12 TX12 34
theorem z_ulist : zws_u.all (fun w => decide (w ∈ lw_tbl) && goodWord w) = true := by decide +kernel
theorem z_uT {w : Cond} (h : w ∈ zws_u) : w ∈ zT := by
  have h1 := List.all_eq_true.mp z_ulist w h
  simp only [Bool.and_eq_true, decide_eq_true_eq] at h1
  exact List.mem_filter.mpr h1
theorem z_u {c : Nat} (h : c < 13) : ∀ w ∈ u_ws (zRn c) (zTb c) (zNf c), w ∈ zT := by
  refine z13 (P := fun c => ∀ w ∈ u_ws (zRn c) (zTb c) (zNf c), w ∈ zT) h ?_ ?_ ?_ ?_ ?_ ?_ ?_ ?_ ?_ ?_ ?_ ?_ ?_ <;> (intro w hw; refine z_uT ?_; unfold zws_u; simp only [List.mem_append]; simp only [zRn, zTb, zNf] at hw; simp only [hw, true_or, or_true])
/-! cells -/
def zv (ro : Nat → Nat) (v : Value) : Value := match v with
  | .ref a => .ref (ro a)
  | v => v
theorem zv_cat (ro : Nat → Nat) (v : Value) : (zv ro v).category = v.category := by cases v <;> rfl
def zfs (ro : Nat → Nat) (I : AI) (F : AR) (c n a : Nat) : List Value := (List.range n).map (fun k => if (zTy c k).isReference = true then va_rf ((F a k).map ro) else .int (I a k))
def zc (ro : Nat → Nat) (ga : Nat → ClassId) (I : AI) (F : AR) (q : Nat × Nat) (a : Nat) : va_E :=
  if q.1 < 13 then .inr (q.1, zfs ro I F q.1 q.2 a)
  else if q.1 < 17 then .inl (ga a, q.2, .inl (I a))
  else .inl (ga a, q.2, .inr (.inr (.inr (.inr (fun j => (F a j).map ro)))))
theorem zc_o {ro : Nat → Nat} {ga : Nat → ClassId} {I : AI} {F : AR} {c n a : Nat} (h : c < 13) : zc ro ga I F (c, n) a = .inr (c, zfs ro I F c n a) := if_pos h
theorem zc_i {ro : Nat → Nat} {ga : Nat → ClassId} {I : AI} {F : AR} {k n a : Nat} (h : ¬ k < 13) (h2 : k < 17) : zc ro ga I F (k, n) a = .inl (ga a, n, .inl (I a)) := by unfold zc; rw [if_neg h, if_pos h2]
theorem zc_r {ro : Nat → Nat} {ga : Nat → ClassId} {I : AI} {F : AR} {k n a : Nat} (h2 : ¬ k < 17) : zc ro ga I F (k, n) a = .inl (ga a, n, .inr (.inr (.inr (.inr (fun j => (F a j).map ro))))) := by unfold zc; rw [if_neg (show ¬ k < 13 by omega), if_neg h2]
def zw (ro : Nat → Nat) (ga : Nat → ClassId) (I : AI) (F : AR) (sh : AS) : va_W := (List.range sh.length).map (fun a => (ro a, zc ro ga I F (sh.getD a (0, 0)) a))
theorem zw_len {ro : Nat → Nat} {ga : Nat → ClassId} {I : AI} {F : AR} {sh : AS} : (zw ro ga I F sh).length = sh.length := by simp [zw]
theorem zw_get {ro : Nat → Nat} {ga : Nat → ClassId} {I : AI} {F : AR} {sh : AS} {a : Nat} {q : Nat × Nat} (h : sh[a]? = some q) : (zw ro ga I F sh)[a]? = some (ro a, zc ro ga I F q a) := by
  have hl : a < sh.length := (List.getElem?_eq_some_iff.mp h).1
  unfold zw
  rw [List.getElem?_map, List.getElem?_range hl]
  simp only [Option.map_some, List.getD_eq_getElem?_getD, h, Option.getD_some]
theorem zw_at {ro : Nat → Nat} {ga : Nat → ClassId} {I : AI} {F : AR} {sh : AS} {a : Nat} {x : Nat × va_E} (h : (zw ro ga I F sh)[a]? = some x) : ∃ q, sh[a]? = some q ∧ x = (ro a, zc ro ga I F q a) := by
  have hl : a < sh.length := by
    have := (List.getElem?_eq_some_iff.mp h).1
    rwa [zw_len] at this
  have e : sh[a]? = some sh[a] := List.getElem?_eq_getElem hl
  rw [zw_get e] at h
  exact ⟨_, e, (Option.some.inj h).symm⟩
theorem zw_set {ro : Nat → Nat} {ga : Nat → ClassId} {I J : AI} {F G : AR} {sh : AS} {a : Nat} {q : Nat × Nat} (h : sh[a]? = some q) (he : ∀ b q, b ≠ a → zc ro ga J G q b = zc ro ga I F q b) : (zw ro ga I F sh).set a (ro a, zc ro ga J G q a) = zw ro ga J G sh := by
  apply List.ext_getElem?
  intro b
  by_cases hb : b = a
  · subst hb
    have hl : b < sh.length := (List.getElem?_eq_some_iff.mp h).1
    rw [List.getElem?_set_self (by rw [zw_len]; exact hl), zw_get h]
  · rw [List.getElem?_set_ne (fun z => hb z.symm)]
    by_cases hl : b < sh.length
    · have e : sh[b]? = some sh[b] := List.getElem?_eq_getElem hl
      rw [zw_get e, zw_get e, he b _ hb]
    · rw [List.getElem?_eq_none (by rw [zw_len]; omega), List.getElem?_eq_none (by rw [zw_len]; omega)]
theorem zc_I {ro : Nat → Nat} {ga : Nat → ClassId} {I : AI} {F : AR} {a : Nat} {f : Nat → Int32} : ∀ (b : Nat) (q : Nat × Nat), b ≠ a → zc ro ga (va_up I a f) F q b = zc ro ga I F q b := by
  intro b q hb
  unfold zc zfs
  rw [show va_up I a f b = I b from if_neg hb]
theorem zc_F {ro : Nat → Nat} {ga : Nat → ClassId} {I : AI} {F : AR} {a : Nat} {f : Nat → Option Nat} : ∀ (b : Nat) (q : Nat × Nat), b ≠ a → zc ro ga I (va_up F a f) q b = zc ro ga I F q b := by
  intro b q hb
  unfold zc zfs
  rw [show va_up F a f b = F b from if_neg hb]
theorem va_up_s {α : Type} (f : Nat → α) (k : Nat) (v : α) : va_up f k v k = v := if_pos rfl
theorem va_up_n {α : Type} (f : Nat → α) {k j : Nat} (v : α) (h : j ≠ k) : va_up f k v j = f j := if_neg h
/-- one int place set -/
def zu (I : AI) (a k : Nat) (x : Int32) : AI := va_up I a (upd (I a) k x)
def zuR (F : AR) (a k : Nat) (x : Option Nat) : AR := va_up F a (va_up (F a) k x)
theorem zfs_get {ro : Nat → Nat} {I : AI} {F : AR} {c n a k : Nat} (h : k < n) : (zfs ro I F c n a)[k]? = some (if (zTy c k).isReference = true then va_rf ((F a k).map ro) else .int (I a k)) := by
  unfold zfs
  rw [List.getElem?_map, List.getElem?_range h]
  rfl
theorem zfs_len {ro : Nat → Nat} {I : AI} {F : AR} {c n a : Nat} : (zfs ro I F c n a).length = n := by simp [zfs]
theorem zfs_setI {ro : Nat → Nat} {I : AI} {F : AR} {c n a k : Nat} {x : Int32} (h : k < n) (hr : (zTy c k).isReference = false) : (zfs ro I F c n a).set k (.int x) = zfs ro (zu I a k x) F c n a := by
  apply List.ext_getElem?
  intro j
  by_cases hj : j = k
  · subst hj
    rw [List.getElem?_set_self (by rw [zfs_len]; exact h), zfs_get h, hr]
    simp [zu, va_up, upd]
  · rw [List.getElem?_set_ne (fun z => hj z.symm)]
    by_cases hl : j < n
    · rw [zfs_get hl, zfs_get hl]
      simp [zu, va_up, upd, hj]
    · rw [List.getElem?_eq_none (by rw [zfs_len]; omega), List.getElem?_eq_none (by rw [zfs_len]; omega)]
theorem zfs_setF {ro : Nat → Nat} {I : AI} {F : AR} {c n a k b : Nat} (h : k < n) (hr : (zTy c k).isReference = true) : (zfs ro I F c n a).set k (.ref (ro b)) = zfs ro I (zuR F a k (some b)) c n a := by
  apply List.ext_getElem?
  intro j
  by_cases hj : j = k
  · subst hj
    rw [List.getElem?_set_self (by rw [zfs_len]; exact h), zfs_get h, hr]
    simp [zuR, va_up, va_rf]
  · rw [List.getElem?_set_ne (fun z => hj z.symm)]
    by_cases hl : j < n
    · rw [zfs_get hl, zfs_get hl]
      simp [zuR, va_up, hj]
    · rw [List.getElem?_eq_none (by rw [zfs_len]; omega), List.getElem?_eq_none (by rw [zfs_len]; omega)]
/-! locals -/
def zh (ro : Nat → Nat) (ls : Array Slot) (n : Nat) (L : List (Option Value)) : Prop := ls.size = n ∧ lv_wf ls ∧ ∀ (i : Nat) (v : Value), L[i]? = some (some v) → ls[i]? = some (.val (zv ro v))
def zl (ro : Nat → Nat) (L : List (Option Value)) : List (Nat × Value) := (List.range L.length).filterMap (fun i => (L.getD i none).map (fun v => (i, zv ro v)))
theorem zl_in {ro : Nat → Nat} {L : List (Option Value)} {i : Nat} {v : Value} : (i, v) ∈ zl ro L ↔ ∃ u, L[i]? = some (some u) ∧ v = zv ro u := by
  unfold zl
  rw [List.mem_filterMap]
  constructor
  · rintro ⟨j, hj, h⟩
    rw [List.getD_eq_getElem?_getD, List.getElem?_eq_getElem (List.mem_range.mp hj), Option.getD_some] at h
    cases hu : L[j]'(List.mem_range.mp hj) with
    | none => rw [hu] at h; cases h
    | some u =>
      rw [hu] at h
      simp only [Option.map_some, Option.some.injEq, Prod.mk.injEq] at h
      obtain ⟨rfl, rfl⟩ := h
      exact ⟨u, by rw [List.getElem?_eq_getElem (List.mem_range.mp hj), hu], rfl⟩
  · rintro ⟨u, h, rfl⟩
    have hl := (List.getElem?_eq_some_iff.mp h).1
    refine ⟨i, List.mem_range.mpr hl, ?_⟩
    rw [List.getD_eq_getElem?_getD, h]
    rfl
theorem zh_has {ro : Nat → Nat} {ls : Array Slot} {n : Nat} {L : List (Option Value)} (h : zh ro ls n L) : lv_has ls n (zl ro L) := by
  refine ⟨h.1, h.2.1, fun q hq => ?_⟩
  obtain ⟨i, v⟩ := q
  obtain ⟨u, hu, rfl⟩ := zl_in.mp hq
  exact h.2.2 i u hu
theorem zh_at {ro : Nat → Nat} {ls : Array Slot} {n : Nat} {L : List (Option Value)} (h : zh ro ls n L) {i : Nat} {v : Value} (hi : L[i]? = some (some v)) : ls[i]? = some (.val (zv ro v)) := h.2.2 i v hi
/-- a long's first half just ahead of a place -/
def zlong (L : List (Option Value)) (i : Nat) : Bool := match i with
  | 0 => false
  | j + 1 => match L[j]? with
    | some (some v) => v.category == 2
    | _ => false
theorem zh_set1 {ro : Nat → Nat} {ls : Array Slot} {n i : Nat} {L : List (Option Value)} {v : Value} (hl : zlong L i = false) (h : lv_has ls n ((i, zv ro v) :: (zl ro L).filter (fun q => !(q.1 == i) && !(q.1 + 1 == i && q.2.category == 2)))) : zh ro ls n (L.set i (some v)) := by
  refine ⟨h.1, h.2.1, fun j u hu => ?_⟩
  by_cases hj : j = i
  · subst hj
    have hl2 : j < L.length := by
      have := (List.getElem?_eq_some_iff.mp hu).1
      rwa [List.length_set] at this
    rw [List.getElem?_set_self hl2] at hu
    cases hu
    exact h.2.2 (j, zv ro v) List.mem_cons_self
  · rw [List.getElem?_set_ne (fun z => hj z.symm)] at hu
    refine h.2.2 (j, zv ro u) (List.mem_cons_of_mem _ (List.mem_filter.mpr ⟨zl_in.mpr ⟨u, hu, rfl⟩, ?_⟩))
    have h1 : (j == i) = false := by simpa using hj
    simp only [h1, Bool.not_false, Bool.true_and, Bool.not_eq_true', Bool.and_eq_false_iff]
    by_cases hji : j + 1 = i
    · right
      subst hji
      unfold zlong at hl
      simp only [hu] at hl
      rw [zv_cat]
      exact hl
    · left
      simpa using hji
theorem zh_set2 {ro : Nat → Nat} {ls : Array Slot} {n i : Nat} {L : List (Option Value)} {x : Int64} (hl : zlong L i = false) (h : lv_has ls n ((i, Value.long x) :: (zl ro L).filter (fun q => !(q.1 == i) && (!(q.1 == i + 1) && !(q.1 + 1 == i && q.2.category == 2))))) : zh ro ls n ((L.set i (some (.long x))).set (i + 1) none) := by
  refine ⟨h.1, h.2.1, fun j u hu => ?_⟩
  by_cases hj1 : j = i + 1
  · subst hj1
    have hl2 : i + 1 < (L.set i (some (Value.long x))).length := by
      have := (List.getElem?_eq_some_iff.mp hu).1
      rwa [List.length_set] at this
    rw [List.getElem?_set_self hl2] at hu
    cases hu
  · rw [List.getElem?_set_ne (fun z => hj1 z.symm)] at hu
    by_cases hj : j = i
    · subst hj
      have hl2 : j < L.length := by
        have := (List.getElem?_eq_some_iff.mp hu).1
        rwa [List.length_set] at this
      rw [List.getElem?_set_self hl2] at hu
      cases hu
      exact h.2.2 (j, .long x) List.mem_cons_self
    · rw [List.getElem?_set_ne (fun z => hj z.symm)] at hu
      refine h.2.2 (j, zv ro u) (List.mem_cons_of_mem _ (List.mem_filter.mpr ⟨zl_in.mpr ⟨u, hu, rfl⟩, ?_⟩))
      have h1 : (j == i) = false := by simpa using hj
      have h2 : (j == i + 1) = false := by simpa using hj1
      simp only [h1, h2, Bool.not_false, Bool.true_and, Bool.not_eq_true', Bool.and_eq_false_iff]
      by_cases hji : j + 1 = i
      · right
        subst hji
        unfold zlong at hl
        simp only [hu] at hl
        rw [zv_cat]
        exact hl
      · left
        simpa using hji
end
section
/-! THE JUDGEMENT: from this place of method M, with these locals, this stack and this memory, M returns v and leaves that memory. -/
def zNest (w : Cond) : Bool := match w with
  | .fieldLinkNest _ _ _ _ _ _ => true
  | .methodLinkNest _ _ _ _ => true
  | .arrayOver _ => true
  | _ => false
def zNl : List Cond := lw_tbl.filter zNest
def zNs (U : State) : Prop := ∀ w ∈ zNl, va_Nw w U
theorem zNs.warm {s U : State} (hW : s.WarmedH U.vm) (h : zNs s) : zNs U := by
  intro w hw
  have h0 := h w hw
  have h1 := (List.mem_filter.mp hw).2
  cases w with
  | fieldLinkNest a b c d e f => exact va_Nw.warmF hW h0
  | methodLinkNest a b c d => exact va_Nw.warmM hW h0
  | arrayOver t =>
    have e : (Cond.arrayOver t).before #[] (s.setVm U.vm) = (Cond.arrayOver t).before #[] U := rfl
    show (Cond.arrayOver t).before #[] U = true
    rw [← e, Cond.arrayOver_setVmC hW.alike]
    exact h0
  | _ => simp [zNest] at h1
theorem zNs.same {u U : State} (h : u.vm = U.vm) (hz : zNs u) : zNs U := by
  intro w hw
  have h0 := hz w hw
  have h1 := (List.mem_filter.mp hw).2
  cases w with
  | fieldLinkNest a b c d e f => exact va_Nw.same rfl h h0
  | methodLinkNest a b c d => exact va_Nw.same rfl h h0
  | arrayOver t =>
    have e : (Cond.arrayOver t).before #[] (u.setVm U.vm) = (Cond.arrayOver t).before #[] U := rfl
    show (Cond.arrayOver t).before #[] U = true
    rw [← e, Cond.arrayOver_setVmC (h ▸ Vm.Alike.refl u.vm)]
    exact h0
  | _ => simp [zNest] at h1
theorem zNl_in {w : Cond} (i : Nat) (h : lw_tbl[i]? = some w) (hg : zNest w = true) : w ∈ zNl := List.mem_filter.mpr ⟨List.mem_of_getElem? h, hg⟩
def zKs (D : va_G) (ga : Nat → ClassId) (sh : AS) (s : State) : Prop := va_K D vwCl [] s ∧ ∀ (a : Nat) (q : Nat × Nat), sh[a]? = some q → 13 ≤ q.1 → va_K D vwCl [(ga a, zKt q.1)] s
theorem zKs.moved {D : va_G} {ga : Nat → ClassId} {sh : AS} {u U : State} (hvm : u.vm.Alike U.vm) (h : zKs D ga sh u) : zKs D ga sh U := ⟨va_K.moved hvm h.1, fun a q hq hk => va_K.moved hvm (h.2 a q hq hk)⟩
def zFw (F : AR) (n : Nat) : Prop := ∀ a k b, F a k = some b → b < n
/-- slots of all cells -/
def zsl (sh : AS) : Nat := (sh.map (fun q => q.2)).sum
/-- what stays through a method's body -/
def ZX (D : va_G) (M : ZM) (p : Program) (R : Room) (s : State) (m : MethodId) (args : Array Value) (meth : Method) (c : Code) (A : Nat → Prop) : Prop :=
  p.tables.exec = Jvm.exec ∧ c.code = M.2.1 ∧ c.maxLocals = M.2.2.1 ∧ s.vm.findClass M.1.cls = some m.cls ∧ (∀ w ∈ zws M, w.before args s = true) ∧ zNs s ∧ M.2.2.2.2.1 ≤ R.frames ∧ M.2.2.2.2.2.1 ≤ R.locals ∧ (∀ q, s.heap.size ≤ q → A q) ∧ (M.1.name = "<init>" → meth.name = "<init>")
/-- the memory as the heap holds it -/
def ZS (D : va_G) (s : State) (A : Nat → Prop) (ro : Nat → Nat) (ga : Nat → ClassId) (I : AI) (F : AR) (sh : AS) (H : Heap) (locs : List Loc) : Prop :=
  va_P D vwCl (zw ro ga I F sh) H ∧ va_D A (zw ro ga I F sh) ∧ va_S A s.heap H locs ∧ zKs D ga sh s ∧ zFw F sh.length
def zAg (ro ro' : Nat → Nat) (ga ga' : Nat → ClassId) (sh sh' : AS) : Prop := (∀ a, (a < sh.length ∨ 90000 ≤ a) → ro' a = ro a) ∧ (sh' = sh → ro' = ro ∧ ga' = ga)
def zop (v : Option Int32) : Instr := if v.isSome then .ireturn else .return_
def ZE (l : Launch) (D : va_G) (M : ZM) (sh : AS) (v : Option Int32) (I' : AI) (F' : AR) (sh' : AS) (p : Program) (e : Env) (R : Room) (s : State) (m : MethodId) (args : Array Value) (below : List Frame) (meth : Method) (c : Code) (A : Nat → Prop) (cells slots : Nat) (Q : State → Prop) (ro : Nat → Nat) (ga : Nat → ClassId) : Prop :=
  ∀ (H' : Heap) (locs' : List Loc) (ro' : Nat → Nat) (ga' : Nat → ClassId) (pc' : Nat) (ls' : Array Slot), ZS D s A ro' ga' I' F' sh' H' locs' → zAg ro ro' ga ga' sh sh' → decode M.2.1 pc' = .ok (zop v, 1) → W p l e R s m args below meth c H' locs' (cells + (sh'.length - sh.length)) (slots + (zsl sh' - zsl sh)) Q (F0 m pc' ls' (v.toList.map Value.int))
def ZR (l : Launch) (D : va_G) (M : ZM) (pc : Nat) (L : List (Option Value)) (S : List Value) (I : AI) (F : AR) (sh : AS) (v : Option Int32) (I' : AI) (F' : AR) (sh' : AS) : Prop :=
  ∀ (p : Program) (e : Env) (R : Room) (s : State) (m : MethodId) (args : Array Value) (below : List Frame) (meth : Method) (c : Code) (A : Nat → Prop) (H : Heap) (locs : List Loc) (cells slots : Nat) (Q : State → Prop) (ro : Nat → Nat) (ga : Nat → ClassId) (ls : Array Slot),
    ZX D M p R s m args meth c A → ZS D s A ro ga I F sh H locs → zh ro ls M.2.2.1 L → cells + (sh'.length - sh.length) ≤ R.cells → slots + (zsl sh' - zsl sh) ≤ R.slots →
    ZE l D M sh v I' F' sh' p e R s m args below meth c A cells slots Q ro ga →
    W p l e R s m args below meth c H locs cells slots Q (F0 m pc ls (S.map (zv ro)))
section ZRows
variable {l : Launch} {D : va_G} {M : ZM} {pc : Nat} {L : List (Option Value)} {S : List Value} {I : AI} {F : AR} {sh : AS} {v : Option Int32} {I' : AI} {F' : AR} {sh' : AS}
theorem R_iadd {x y : Int32} (hd : decode M.2.1 pc = .ok (.iadd, 1))  (k : ZR l D M (pc + 1) L (.int (x + y) :: S) I F sh v I' F' sh') : ZR l D M (pc) L (.int y :: .int x :: S) I F sh v I' F' sh' := by
  intro p e R s m args below meth c A H locs cells slots Q ro ga ls hX hZ hl hc hs hr
  exact lv_iadd hX.1 hX.2.1 hd  (k p e R s m args below meth c A H locs cells slots Q ro ga ls hX hZ hl hc hs hr)
theorem R_isub {x y : Int32} (hd : decode M.2.1 pc = .ok (.isub, 1))  (k : ZR l D M (pc + 1) L (.int (x - y) :: S) I F sh v I' F' sh') : ZR l D M (pc) L (.int y :: .int x :: S) I F sh v I' F' sh' := by
  intro p e R s m args below meth c A H locs cells slots Q ro ga ls hX hZ hl hc hs hr
  exact lv_isub hX.1 hX.2.1 hd  (k p e R s m args below meth c A H locs cells slots Q ro ga ls hX hZ hl hc hs hr)
theorem R_imul {x y : Int32} (hd : decode M.2.1 pc = .ok (.imul, 1))  (k : ZR l D M (pc + 1) L (.int (x * y) :: S) I F sh v I' F' sh') : ZR l D M (pc) L (.int y :: .int x :: S) I F sh v I' F' sh' := by
  intro p e R s m args below meth c A H locs cells slots Q ro ga ls hX hZ hl hc hs hr
  exact lv_imul hX.1 hX.2.1 hd  (k p e R s m args below meth c A H locs cells slots Q ro ga ls hX hZ hl hc hs hr)
theorem R_iand {x y : Int32} (hd : decode M.2.1 pc = .ok (.iand, 1))  (k : ZR l D M (pc + 1) L (.int (x &&& y) :: S) I F sh v I' F' sh') : ZR l D M (pc) L (.int y :: .int x :: S) I F sh v I' F' sh' := by
  intro p e R s m args below meth c A H locs cells slots Q ro ga ls hX hZ hl hc hs hr
  exact lv_iand hX.1 hX.2.1 hd  (k p e R s m args below meth c A H locs cells slots Q ro ga ls hX hZ hl hc hs hr)
theorem R_ior {x y : Int32} (hd : decode M.2.1 pc = .ok (.ior, 1))  (k : ZR l D M (pc + 1) L (.int (x ||| y) :: S) I F sh v I' F' sh') : ZR l D M (pc) L (.int y :: .int x :: S) I F sh v I' F' sh' := by
  intro p e R s m args below meth c A H locs cells slots Q ro ga ls hX hZ hl hc hs hr
  exact lv_ior hX.1 hX.2.1 hd  (k p e R s m args below meth c A H locs cells slots Q ro ga ls hX hZ hl hc hs hr)
theorem R_ishl {x y : Int32} (hd : decode M.2.1 pc = .ok (.ishl, 1))  (k : ZR l D M (pc + 1) L (.int (x <<< (y &&& 31)) :: S) I F sh v I' F' sh') : ZR l D M (pc) L (.int y :: .int x :: S) I F sh v I' F' sh' := by
  intro p e R s m args below meth c A H locs cells slots Q ro ga ls hX hZ hl hc hs hr
  exact lv_ishl hX.1 hX.2.1 hd  (k p e R s m args below meth c A H locs cells slots Q ro ga ls hX hZ hl hc hs hr)
theorem R_ishr {x y : Int32} (hd : decode M.2.1 pc = .ok (.ishr, 1))  (k : ZR l D M (pc + 1) L (.int (x >>> (y &&& 31)) :: S) I F sh v I' F' sh') : ZR l D M (pc) L (.int y :: .int x :: S) I F sh v I' F' sh' := by
  intro p e R s m args below meth c A H locs cells slots Q ro ga ls hX hZ hl hc hs hr
  exact lv_ishr hX.1 hX.2.1 hd  (k p e R s m args below meth c A H locs cells slots Q ro ga ls hX hZ hl hc hs hr)
theorem R_idiv {x y : Int32} (hd : decode M.2.1 pc = .ok (.idiv, 1)) (hne : ¬ y = 0) (k : ZR l D M (pc + 1) L (.int (x / y) :: S) I F sh v I' F' sh') : ZR l D M (pc) L (.int y :: .int x :: S) I F sh v I' F' sh' := by
  intro p e R s m args below meth c A H locs cells slots Q ro ga ls hX hZ hl hc hs hr
  exact lv_idiv hX.1 hX.2.1 hd hne (k p e R s m args below meth c A H locs cells slots Q ro ga ls hX hZ hl hc hs hr)
theorem R_irem {x y : Int32} (hd : decode M.2.1 pc = .ok (.irem, 1)) (hne : ¬ y = 0) (k : ZR l D M (pc + 1) L (.int (x - x / y * y) :: S) I F sh v I' F' sh') : ZR l D M (pc) L (.int y :: .int x :: S) I F sh v I' F' sh' := by
  intro p e R s m args below meth c A H locs cells slots Q ro ga ls hX hZ hl hc hs hr
  exact lv_irem hX.1 hX.2.1 hd hne (k p e R s m args below meth c A H locs cells slots Q ro ga ls hX hZ hl hc hs hr)
theorem R_ladd {x y : Int64} (hd : decode M.2.1 pc = .ok (.ladd, 1))  (k : ZR l D M (pc + 1) L (.long (x + y) :: S) I F sh v I' F' sh') : ZR l D M (pc) L (.long y :: .long x :: S) I F sh v I' F' sh' := by
  intro p e R s m args below meth c A H locs cells slots Q ro ga ls hX hZ hl hc hs hr
  exact lv_ladd hX.1 hX.2.1 hd  (k p e R s m args below meth c A H locs cells slots Q ro ga ls hX hZ hl hc hs hr)
theorem R_lmul {x y : Int64} (hd : decode M.2.1 pc = .ok (.lmul, 1))  (k : ZR l D M (pc + 1) L (.long (x * y) :: S) I F sh v I' F' sh') : ZR l D M (pc) L (.long y :: .long x :: S) I F sh v I' F' sh' := by
  intro p e R s m args below meth c A H locs cells slots Q ro ga ls hX hZ hl hc hs hr
  exact lv_lmul hX.1 hX.2.1 hd  (k p e R s m args below meth c A H locs cells slots Q ro ga ls hX hZ hl hc hs hr)
theorem R_lrem {x y : Int64} (hd : decode M.2.1 pc = .ok (.lrem, 1)) (hne : ¬ y = 0) (k : ZR l D M (pc + 1) L (.long (x - x / y * y) :: S) I F sh v I' F' sh') : ZR l D M (pc) L (.long y :: .long x :: S) I F sh v I' F' sh' := by
  intro p e R s m args below meth c A H locs cells slots Q ro ga ls hX hZ hl hc hs hr
  exact lv_lrem hX.1 hX.2.1 hd hne (k p e R s m args below meth c A H locs cells slots Q ro ga ls hX hZ hl hc hs hr)
theorem R_i2l {x : Int32} (hd : decode M.2.1 pc = .ok (.i2l, 1))  (k : ZR l D M (pc + 1) L (.long x.toInt64 :: S) I F sh v I' F' sh') : ZR l D M (pc) L (.int x :: S) I F sh v I' F' sh' := by
  intro p e R s m args below meth c A H locs cells slots Q ro ga ls hX hZ hl hc hs hr
  exact lv_i2l hX.1 hX.2.1 hd rfl (k p e R s m args below meth c A H locs cells slots Q ro ga ls hX hZ hl hc hs hr)
theorem R_l2i {x : Int64} (hd : decode M.2.1 pc = .ok (.l2i, 1))  (k : ZR l D M (pc + 1) L (.int x.toInt32 :: S) I F sh v I' F' sh') : ZR l D M (pc) L (.long x :: S) I F sh v I' F' sh' := by
  intro p e R s m args below meth c A H locs cells slots Q ro ga ls hX hZ hl hc hs hr
  exact lv_l2i hX.1 hX.2.1 hd rfl (k p e R s m args below meth c A H locs cells slots Q ro ga ls hX hZ hl hc hs hr)
theorem R_i2b {x : Int32} (hd : decode M.2.1 pc = .ok (.i2b, 1))  (k : ZR l D M (pc + 1) L (.int x.toInt8.toInt32 :: S) I F sh v I' F' sh') : ZR l D M (pc) L (.int x :: S) I F sh v I' F' sh' := by
  intro p e R s m args below meth c A H locs cells slots Q ro ga ls hX hZ hl hc hs hr
  exact lv_i2b hX.1 hX.2.1 hd rfl (k p e R s m args below meth c A H locs cells slots Q ro ga ls hX hZ hl hc hs hr)
theorem R_i2c {x : Int32} (hd : decode M.2.1 pc = .ok (.i2c, 1))  (k : ZR l D M (pc + 1) L (.int (x.toUInt32 % 65536).toInt32 :: S) I F sh v I' F' sh') : ZR l D M (pc) L (.int x :: S) I F sh v I' F' sh' := by
  intro p e R s m args below meth c A H locs cells slots Q ro ga ls hX hZ hl hc hs hr
  exact lv_i2c hX.1 hX.2.1 hd rfl (k p e R s m args below meth c A H locs cells slots Q ro ga ls hX hZ hl hc hs hr)
theorem R_dup {a : Value} (hd : decode M.2.1 pc = .ok (.dup, 1)) (ha : a.category = 1) (k : ZR l D M (pc + 1) L (a :: a :: S) I F sh v I' F' sh') : ZR l D M (pc) L (a :: S) I F sh v I' F' sh' := by
  intro p e R s m args below meth c A H locs cells slots Q ro ga ls hX hZ hl hc hs hr
  exact lv_dup hX.1 hX.2.1 hd (by rw [zv_cat]; exact ha) (k p e R s m args below meth c A H locs cells slots Q ro ga ls hX hZ hl hc hs hr)
theorem R_pop {a : Value} (hd : decode M.2.1 pc = .ok (.pop, 1)) (ha : a.category = 1) (k : ZR l D M (pc + 1) L (S) I F sh v I' F' sh') : ZR l D M (pc) L (a :: S) I F sh v I' F' sh' := by
  intro p e R s m args below meth c A H locs cells slots Q ro ga ls hX hZ hl hc hs hr
  exact lv_pop hX.1 hX.2.1 hd (by rw [zv_cat]; exact ha) (k p e R s m args below meth c A H locs cells slots Q ro ga ls hX hZ hl hc hs hr)
theorem R_dup2 {a b : Value} (hd : decode M.2.1 pc = .ok (.dup2, 1)) (ha : a.category = 1) (hb : b.category = 1) (k : ZR l D M (pc + 1) L (a :: b :: a :: b :: S) I F sh v I' F' sh') : ZR l D M (pc) L (a :: b :: S) I F sh v I' F' sh' := by
  intro p e R s m args below meth c A H locs cells slots Q ro ga ls hX hZ hl hc hs hr
  exact lv_dup2_11 hX.1 hX.2.1 hd (by rw [zv_cat]; exact ha) (by rw [zv_cat]; exact hb) (k p e R s m args below meth c A H locs cells slots Q ro ga ls hX hZ hl hc hs hr)
theorem R_dup2l {a : Value} (hd : decode M.2.1 pc = .ok (.dup2, 1)) (ha : a.category = 2) (k : ZR l D M (pc + 1) L (a :: a :: S) I F sh v I' F' sh') : ZR l D M (pc) L (a :: S) I F sh v I' F' sh' := by
  intro p e R s m args below meth c A H locs cells slots Q ro ga ls hX hZ hl hc hs hr
  exact lv_dup2_2 hX.1 hX.2.1 hd (by rw [zv_cat]; exact ha) (k p e R s m args below meth c A H locs cells slots Q ro ga ls hX hZ hl hc hs hr)
theorem R_iconst {n : Int} {x : Int32} (hd : decode M.2.1 pc = .ok (.iconst n, 1)) (hv : Int32.ofInt n = x) (k : ZR l D M (pc + 1) L (.int x :: S) I F sh v I' F' sh') : ZR l D M (pc) L (S) I F sh v I' F' sh' := by
  intro p e R s m args below meth c A H locs cells slots Q ro ga ls hX hZ hl hc hs hr
  exact lv_iconst hX.1 hX.2.1 hd hv (k p e R s m args below meth c A H locs cells slots Q ro ga ls hX hZ hl hc hs hr)
theorem R_bipush {n : Int} {x : Int32} (hd : decode M.2.1 pc = .ok (.bipush n, 2)) (hv : (Int8.ofInt n).toInt32 = x) (k : ZR l D M (pc + 2) L (.int x :: S) I F sh v I' F' sh') : ZR l D M (pc) L (S) I F sh v I' F' sh' := by
  intro p e R s m args below meth c A H locs cells slots Q ro ga ls hX hZ hl hc hs hr
  exact lv_bipush hX.1 hX.2.1 hd hv (k p e R s m args below meth c A H locs cells slots Q ro ga ls hX hZ hl hc hs hr)
theorem R_sipush {n : Int} {x : Int32} (hd : decode M.2.1 pc = .ok (.sipush n, 3)) (hv : (Int16.ofInt n).toInt32 = x) (k : ZR l D M (pc + 3) L (.int x :: S) I F sh v I' F' sh') : ZR l D M (pc) L (S) I F sh v I' F' sh' := by
  intro p e R s m args below meth c A H locs cells slots Q ro ga ls hX hZ hl hc hs hr
  exact lv_sipush hX.1 hX.2.1 hd hv (k p e R s m args below meth c A H locs cells slots Q ro ga ls hX hZ hl hc hs hr)
theorem R_lconst {n : Fin 2} {x : Int64} (hd : decode M.2.1 pc = .ok (.lconst n, 1)) (hv : Int64.ofNat (n : Nat) = x) (k : ZR l D M (pc + 1) L (.long x :: S) I F sh v I' F' sh') : ZR l D M (pc) L (S) I F sh v I' F' sh' := by
  intro p e R s m args below meth c A H locs cells slots Q ro ga ls hX hZ hl hc hs hr
  exact lv_lconst hX.1 hX.2.1 hd hv (k p e R s m args below meth c A H locs cells slots Q ro ga ls hX hZ hl hc hs hr)
theorem R_ldc2 {n : Nat} {x : Int64} (hd : decode M.2.1 pc = .ok (.ldc2_w n, 3)) (hv : Cond.constantLong M.1.cls n x ∈ zT) (k : ZR l D M (pc + 3) L (.long x :: S) I F sh v I' F' sh') : ZR l D M (pc) L (S) I F sh v I' F' sh' := by
  intro p e R s m args below meth c A H locs cells slots Q ro ga ls hX hZ hl hc hs hr
  exact lv_ldc2 (own := M.1.cls) hX.1 hX.2.1 hX.2.2.2.1 (hX.2.2.2.2.1 _ (List.mem_cons_of_mem _ hv)) hd (k p e R s m args below meth c A H locs cells slots Q ro ga ls hX hZ hl hc hs hr)
theorem R_iload_n {n : Fin 4} {x : Int32} (hd : decode M.2.1 pc = .ok (.iload_n n, 1)) (hL : L[(n : Nat)]? = some (some (.int x))) (k : ZR l D M (pc + 1) L (.int x :: S) I F sh v I' F' sh') : ZR l D M (pc) L (S) I F sh v I' F' sh' := by
  intro p e R s m args below meth c A H locs cells slots Q ro ga ls hX hZ hl hc hs hr
  exact lv_iload_n hX.1 hX.2.1 hd rfl (zh_at hl hL) (k p e R s m args below meth c A H locs cells slots Q ro ga ls hX hZ hl hc hs hr)
theorem R_iload {n : Nat} {x : Int32} (hd : decode M.2.1 pc = .ok (.iload n, 2)) (hL : L[n]? = some (some (.int x))) (k : ZR l D M (pc + 2) L (.int x :: S) I F sh v I' F' sh') : ZR l D M (pc) L (S) I F sh v I' F' sh' := by
  intro p e R s m args below meth c A H locs cells slots Q ro ga ls hX hZ hl hc hs hr
  exact lv_iload hX.1 hX.2.1 hd (zh_at hl hL) (k p e R s m args below meth c A H locs cells slots Q ro ga ls hX hZ hl hc hs hr)
theorem R_lload_n {n : Fin 4} {x : Int64} (hd : decode M.2.1 pc = .ok (.lload_n n, 1)) (hL : L[(n : Nat)]? = some (some (.long x))) (k : ZR l D M (pc + 1) L (.long x :: S) I F sh v I' F' sh') : ZR l D M (pc) L (S) I F sh v I' F' sh' := by
  intro p e R s m args below meth c A H locs cells slots Q ro ga ls hX hZ hl hc hs hr
  exact lv_lload_n hX.1 hX.2.1 hd rfl (zh_at hl hL) (k p e R s m args below meth c A H locs cells slots Q ro ga ls hX hZ hl hc hs hr)
theorem R_lload {n : Nat} {x : Int64} (hd : decode M.2.1 pc = .ok (.lload n, 2)) (hL : L[n]? = some (some (.long x))) (k : ZR l D M (pc + 2) L (.long x :: S) I F sh v I' F' sh') : ZR l D M (pc) L (S) I F sh v I' F' sh' := by
  intro p e R s m args below meth c A H locs cells slots Q ro ga ls hX hZ hl hc hs hr
  exact lv_lload hX.1 hX.2.1 hd (zh_at hl hL) (k p e R s m args below meth c A H locs cells slots Q ro ga ls hX hZ hl hc hs hr)
theorem R_aload_n {n : Fin 4} {x : Nat} (hd : decode M.2.1 pc = .ok (.aload_n n, 1)) (hL : L[(n : Nat)]? = some (some (.ref x))) (k : ZR l D M (pc + 1) L (.ref x :: S) I F sh v I' F' sh') : ZR l D M (pc) L (S) I F sh v I' F' sh' := by
  intro p e R s m args below meth c A H locs cells slots Q ro ga ls hX hZ hl hc hs hr
  exact lv_aload_n hX.1 hX.2.1 hd rfl (zh_at hl hL) (k p e R s m args below meth c A H locs cells slots Q ro ga ls hX hZ hl hc hs hr)
theorem R_aload {n : Nat} {x : Nat} (hd : decode M.2.1 pc = .ok (.aload n, 2)) (hL : L[n]? = some (some (.ref x))) (k : ZR l D M (pc + 2) L (.ref x :: S) I F sh v I' F' sh') : ZR l D M (pc) L (S) I F sh v I' F' sh' := by
  intro p e R s m args below meth c A H locs cells slots Q ro ga ls hX hZ hl hc hs hr
  exact lv_aload hX.1 hX.2.1 hd (zh_at hl hL) (k p e R s m args below meth c A H locs cells slots Q ro ga ls hX hZ hl hc hs hr)
theorem R_istore_n {n : Fin 4} {x : Int32} (hd : decode M.2.1 pc = .ok (.istore_n n, 1)) (hn : (n : Nat) < M.2.2.1) (hg : zlong L (n : Nat) = false) (k : ZR l D M (pc + 1) (L.set (n : Nat) (some (.int x))) (S) I F sh v I' F' sh') : ZR l D M (pc) L (.int x :: S) I F sh v I' F' sh' := by
  intro p e R s m args below meth c A H locs cells slots Q ro ga ls hX hZ hl hc hs hr
  exact lv_istore_n hX.1 hX.2.1 hd rfl (zh_has hl) hn rfl (fun ls' hl' => k p e R s m args below meth c A H locs cells slots Q ro ga ls' hX hZ (zh_set1 (v := .int x) hg hl') hc hs hr)
theorem R_istore {n : Nat} {x : Int32} (hd : decode M.2.1 pc = .ok (.istore n, 2)) (hn : n < M.2.2.1) (hg : zlong L n = false) (k : ZR l D M (pc + 2) (L.set n (some (.int x))) (S) I F sh v I' F' sh') : ZR l D M (pc) L (.int x :: S) I F sh v I' F' sh' := by
  intro p e R s m args below meth c A H locs cells slots Q ro ga ls hX hZ hl hc hs hr
  exact lv_istore hX.1 hX.2.1 hd (zh_has hl) hn rfl (fun ls' hl' => k p e R s m args below meth c A H locs cells slots Q ro ga ls' hX hZ (zh_set1 (v := .int x) hg hl') hc hs hr)
theorem R_astore_n {n : Fin 4} {x : Nat} (hd : decode M.2.1 pc = .ok (.astore_n n, 1)) (hn : (n : Nat) < M.2.2.1) (hg : zlong L (n : Nat) = false) (k : ZR l D M (pc + 1) (L.set (n : Nat) (some (.ref x))) (S) I F sh v I' F' sh') : ZR l D M (pc) L (.ref x :: S) I F sh v I' F' sh' := by
  intro p e R s m args below meth c A H locs cells slots Q ro ga ls hX hZ hl hc hs hr
  exact lv_astore_n hX.1 hX.2.1 hd rfl (zh_has hl) hn rfl (fun ls' hl' => k p e R s m args below meth c A H locs cells slots Q ro ga ls' hX hZ (zh_set1 (v := .ref x) hg hl') hc hs hr)
theorem R_astore {n : Nat} {x : Nat} (hd : decode M.2.1 pc = .ok (.astore n, 2)) (hn : n < M.2.2.1) (hg : zlong L n = false) (k : ZR l D M (pc + 2) (L.set n (some (.ref x))) (S) I F sh v I' F' sh') : ZR l D M (pc) L (.ref x :: S) I F sh v I' F' sh' := by
  intro p e R s m args below meth c A H locs cells slots Q ro ga ls hX hZ hl hc hs hr
  exact lv_astore hX.1 hX.2.1 hd (zh_has hl) hn rfl (fun ls' hl' => k p e R s m args below meth c A H locs cells slots Q ro ga ls' hX hZ (zh_set1 (v := .ref x) hg hl') hc hs hr)
theorem R_lstore_n {n : Fin 4} {x : Int64} (hd : decode M.2.1 pc = .ok (.lstore_n n, 1)) (hn : (n : Nat) + 1 < M.2.2.1) (hg : zlong L (n : Nat) = false) (k : ZR l D M (pc + 1) ((L.set (n : Nat) (some (.long x))).set ((n : Nat) + 1) none) (S) I F sh v I' F' sh') : ZR l D M (pc) L (.long x :: S) I F sh v I' F' sh' := by
  intro p e R s m args below meth c A H locs cells slots Q ro ga ls hX hZ hl hc hs hr
  exact lv_lstore_n hX.1 hX.2.1 hd rfl (zh_has hl) hn rfl (fun ls' hl' => k p e R s m args below meth c A H locs cells slots Q ro ga ls' hX hZ (zh_set2 hg hl') hc hs hr)
theorem R_lstore {n : Nat} {x : Int64} (hd : decode M.2.1 pc = .ok (.lstore n, 2)) (hn : n + 1 < M.2.2.1) (hg : zlong L n = false) (k : ZR l D M (pc + 2) ((L.set n (some (.long x))).set (n + 1) none) (S) I F sh v I' F' sh') : ZR l D M (pc) L (.long x :: S) I F sh v I' F' sh' := by
  intro p e R s m args below meth c A H locs cells slots Q ro ga ls hX hZ hl hc hs hr
  exact lv_lstore hX.1 hX.2.1 hd (zh_has hl) hn rfl (fun ls' hl' => k p e R s m args below meth c A H locs cells slots Q ro ga ls' hX hZ (zh_set2 hg hl') hc hs hr)
theorem R_iinc {i : Nat} {n : Int} {x y : Int32} (hd : decode M.2.1 pc = .ok (.iinc i n, 3)) (hL : L[i]? = some (some (.int x))) (hv : x + Int32.ofInt n = y) (hn : i < M.2.2.1) (hg : zlong L i = false) (k : ZR l D M (pc + 3) (L.set i (some (.int y))) (S) I F sh v I' F' sh') : ZR l D M (pc) L (S) I F sh v I' F' sh' := by
  intro p e R s m args below meth c A H locs cells slots Q ro ga ls hX hZ hl hc hs hr
  obtain ⟨q, hq⟩ := List.getElem?_of_mem (zl_in (ro := ro) (v := .int x).mpr ⟨_, hL, rfl⟩)
  exact lv_iinc hX.1 hX.2.1 hd (zh_has hl) hq hv hn rfl (fun ls' hl' => k p e R s m args below meth c A H locs cells slots Q ro ga ls' hX hZ (zh_set1 (v := .int y) hg hl') hc hs hr)
theorem R_goto {off : Int} {tgt : Nat} (hd : decode M.2.1 pc = .ok (.goto off, 3)) (ht : (pc : Int) + off = (tgt : Int)) (k : ZR l D M (tgt) L (S) I F sh v I' F' sh') : ZR l D M (pc) L (S) I F sh v I' F' sh' := by
  intro p e R s m args below meth c A H locs cells slots Q ro ga ls hX hZ hl hc hs hr
  exact lv_goto hX.1 hX.2.1 hd ht (k p e R s m args below meth c A H locs cells slots Q ro ga ls hX hZ hl hc hs hr)
theorem R_icmp_eq {x y : Int32} {off : Int} {tgt : Nat} (hd : decode M.2.1 pc = .ok (.if_icmp .eq off, 3)) (ht : (pc : Int) + off = (tgt : Int)) (kt : x = y → ZR l D M (tgt) L (S) I F sh v I' F' sh') (kf : ¬ x = y → ZR l D M (pc + 3) L (S) I F sh v I' F' sh') : ZR l D M (pc) L (.int y :: .int x :: S) I F sh v I' F' sh' := by
  intro p e R s m args below meth c A H locs cells slots Q ro ga ls hX hZ hl hc hs hr
  exact lv_icmp_eq hX.1 hX.2.1 hd ht (fun h => kt h p e R s m args below meth c A H locs cells slots Q ro ga ls hX hZ hl hc hs hr) (fun h => kf h p e R s m args below meth c A H locs cells slots Q ro ga ls hX hZ hl hc hs hr)
theorem R_if_eq {x : Int32} {off : Int} {tgt : Nat} (hd : decode M.2.1 pc = .ok (.ifCond .eq off, 3)) (ht : (pc : Int) + off = (tgt : Int)) (kt : x = 0 → ZR l D M (tgt) L (S) I F sh v I' F' sh') (kf : ¬ x = 0 → ZR l D M (pc + 3) L (S) I F sh v I' F' sh') : ZR l D M (pc) L (.int x :: S) I F sh v I' F' sh' := by
  intro p e R s m args below meth c A H locs cells slots Q ro ga ls hX hZ hl hc hs hr
  exact lv_if_eq hX.1 hX.2.1 hd ht (fun h => kt h p e R s m args below meth c A H locs cells slots Q ro ga ls hX hZ hl hc hs hr) (fun h => kf h p e R s m args below meth c A H locs cells slots Q ro ga ls hX hZ hl hc hs hr)
theorem R_icmp_ne {x y : Int32} {off : Int} {tgt : Nat} (hd : decode M.2.1 pc = .ok (.if_icmp .ne off, 3)) (ht : (pc : Int) + off = (tgt : Int)) (kt : ¬ x = y → ZR l D M (tgt) L (S) I F sh v I' F' sh') (kf : x = y → ZR l D M (pc + 3) L (S) I F sh v I' F' sh') : ZR l D M (pc) L (.int y :: .int x :: S) I F sh v I' F' sh' := by
  intro p e R s m args below meth c A H locs cells slots Q ro ga ls hX hZ hl hc hs hr
  exact lv_icmp_ne hX.1 hX.2.1 hd ht (fun h => kt h p e R s m args below meth c A H locs cells slots Q ro ga ls hX hZ hl hc hs hr) (fun h => kf h p e R s m args below meth c A H locs cells slots Q ro ga ls hX hZ hl hc hs hr)
theorem R_if_ne {x : Int32} {off : Int} {tgt : Nat} (hd : decode M.2.1 pc = .ok (.ifCond .ne off, 3)) (ht : (pc : Int) + off = (tgt : Int)) (kt : ¬ x = 0 → ZR l D M (tgt) L (S) I F sh v I' F' sh') (kf : x = 0 → ZR l D M (pc + 3) L (S) I F sh v I' F' sh') : ZR l D M (pc) L (.int x :: S) I F sh v I' F' sh' := by
  intro p e R s m args below meth c A H locs cells slots Q ro ga ls hX hZ hl hc hs hr
  exact lv_if_ne hX.1 hX.2.1 hd ht (fun h => kt h p e R s m args below meth c A H locs cells slots Q ro ga ls hX hZ hl hc hs hr) (fun h => kf h p e R s m args below meth c A H locs cells slots Q ro ga ls hX hZ hl hc hs hr)
theorem R_icmp_lt {x y : Int32} {off : Int} {tgt : Nat} (hd : decode M.2.1 pc = .ok (.if_icmp .lt off, 3)) (ht : (pc : Int) + off = (tgt : Int)) (kt : x < y → ZR l D M (tgt) L (S) I F sh v I' F' sh') (kf : ¬ x < y → ZR l D M (pc + 3) L (S) I F sh v I' F' sh') : ZR l D M (pc) L (.int y :: .int x :: S) I F sh v I' F' sh' := by
  intro p e R s m args below meth c A H locs cells slots Q ro ga ls hX hZ hl hc hs hr
  exact lv_icmp_lt hX.1 hX.2.1 hd ht (fun h => kt h p e R s m args below meth c A H locs cells slots Q ro ga ls hX hZ hl hc hs hr) (fun h => kf h p e R s m args below meth c A H locs cells slots Q ro ga ls hX hZ hl hc hs hr)
theorem R_if_lt {x : Int32} {off : Int} {tgt : Nat} (hd : decode M.2.1 pc = .ok (.ifCond .lt off, 3)) (ht : (pc : Int) + off = (tgt : Int)) (kt : x < 0 → ZR l D M (tgt) L (S) I F sh v I' F' sh') (kf : ¬ x < 0 → ZR l D M (pc + 3) L (S) I F sh v I' F' sh') : ZR l D M (pc) L (.int x :: S) I F sh v I' F' sh' := by
  intro p e R s m args below meth c A H locs cells slots Q ro ga ls hX hZ hl hc hs hr
  exact lv_if_lt hX.1 hX.2.1 hd ht (fun h => kt h p e R s m args below meth c A H locs cells slots Q ro ga ls hX hZ hl hc hs hr) (fun h => kf h p e R s m args below meth c A H locs cells slots Q ro ga ls hX hZ hl hc hs hr)
theorem R_icmp_ge {x y : Int32} {off : Int} {tgt : Nat} (hd : decode M.2.1 pc = .ok (.if_icmp .ge off, 3)) (ht : (pc : Int) + off = (tgt : Int)) (kt : y ≤ x → ZR l D M (tgt) L (S) I F sh v I' F' sh') (kf : ¬ y ≤ x → ZR l D M (pc + 3) L (S) I F sh v I' F' sh') : ZR l D M (pc) L (.int y :: .int x :: S) I F sh v I' F' sh' := by
  intro p e R s m args below meth c A H locs cells slots Q ro ga ls hX hZ hl hc hs hr
  exact lv_icmp_ge hX.1 hX.2.1 hd ht (fun h => kt h p e R s m args below meth c A H locs cells slots Q ro ga ls hX hZ hl hc hs hr) (fun h => kf h p e R s m args below meth c A H locs cells slots Q ro ga ls hX hZ hl hc hs hr)
theorem R_if_ge {x : Int32} {off : Int} {tgt : Nat} (hd : decode M.2.1 pc = .ok (.ifCond .ge off, 3)) (ht : (pc : Int) + off = (tgt : Int)) (kt : 0 ≤ x → ZR l D M (tgt) L (S) I F sh v I' F' sh') (kf : ¬ 0 ≤ x → ZR l D M (pc + 3) L (S) I F sh v I' F' sh') : ZR l D M (pc) L (.int x :: S) I F sh v I' F' sh' := by
  intro p e R s m args below meth c A H locs cells slots Q ro ga ls hX hZ hl hc hs hr
  exact lv_if_ge hX.1 hX.2.1 hd ht (fun h => kt h p e R s m args below meth c A H locs cells slots Q ro ga ls hX hZ hl hc hs hr) (fun h => kf h p e R s m args below meth c A H locs cells slots Q ro ga ls hX hZ hl hc hs hr)
theorem R_icmp_gt {x y : Int32} {off : Int} {tgt : Nat} (hd : decode M.2.1 pc = .ok (.if_icmp .gt off, 3)) (ht : (pc : Int) + off = (tgt : Int)) (kt : y < x → ZR l D M (tgt) L (S) I F sh v I' F' sh') (kf : ¬ y < x → ZR l D M (pc + 3) L (S) I F sh v I' F' sh') : ZR l D M (pc) L (.int y :: .int x :: S) I F sh v I' F' sh' := by
  intro p e R s m args below meth c A H locs cells slots Q ro ga ls hX hZ hl hc hs hr
  exact lv_icmp_gt hX.1 hX.2.1 hd ht (fun h => kt h p e R s m args below meth c A H locs cells slots Q ro ga ls hX hZ hl hc hs hr) (fun h => kf h p e R s m args below meth c A H locs cells slots Q ro ga ls hX hZ hl hc hs hr)
theorem R_if_gt {x : Int32} {off : Int} {tgt : Nat} (hd : decode M.2.1 pc = .ok (.ifCond .gt off, 3)) (ht : (pc : Int) + off = (tgt : Int)) (kt : 0 < x → ZR l D M (tgt) L (S) I F sh v I' F' sh') (kf : ¬ 0 < x → ZR l D M (pc + 3) L (S) I F sh v I' F' sh') : ZR l D M (pc) L (.int x :: S) I F sh v I' F' sh' := by
  intro p e R s m args below meth c A H locs cells slots Q ro ga ls hX hZ hl hc hs hr
  exact lv_if_gt hX.1 hX.2.1 hd ht (fun h => kt h p e R s m args below meth c A H locs cells slots Q ro ga ls hX hZ hl hc hs hr) (fun h => kf h p e R s m args below meth c A H locs cells slots Q ro ga ls hX hZ hl hc hs hr)
theorem R_icmp_le {x y : Int32} {off : Int} {tgt : Nat} (hd : decode M.2.1 pc = .ok (.if_icmp .le off, 3)) (ht : (pc : Int) + off = (tgt : Int)) (kt : x ≤ y → ZR l D M (tgt) L (S) I F sh v I' F' sh') (kf : ¬ x ≤ y → ZR l D M (pc + 3) L (S) I F sh v I' F' sh') : ZR l D M (pc) L (.int y :: .int x :: S) I F sh v I' F' sh' := by
  intro p e R s m args below meth c A H locs cells slots Q ro ga ls hX hZ hl hc hs hr
  exact lv_icmp_le hX.1 hX.2.1 hd ht (fun h => kt h p e R s m args below meth c A H locs cells slots Q ro ga ls hX hZ hl hc hs hr) (fun h => kf h p e R s m args below meth c A H locs cells slots Q ro ga ls hX hZ hl hc hs hr)
theorem R_if_le {x : Int32} {off : Int} {tgt : Nat} (hd : decode M.2.1 pc = .ok (.ifCond .le off, 3)) (ht : (pc : Int) + off = (tgt : Int)) (kt : x ≤ 0 → ZR l D M (tgt) L (S) I F sh v I' F' sh') (kf : ¬ x ≤ 0 → ZR l D M (pc + 3) L (S) I F sh v I' F' sh') : ZR l D M (pc) L (.int x :: S) I F sh v I' F' sh' := by
  intro p e R s m args below meth c A H locs cells slots Q ro ga ls hX hZ hl hc hs hr
  exact lv_if_le hX.1 hX.2.1 hd ht (fun h => kt h p e R s m args below meth c A H locs cells slots Q ro ga ls hX hZ hl hc hs hr) (fun h => kf h p e R s m args below meth c A H locs cells slots Q ro ga ls hX hZ hl hc hs hr)
theorem R_lookup {dflt : Int} {ps : Array (Int × Int)} {len : Nat} {x : Int32} {off : Int} {tgt : Nat} (hd : decode M.2.1 pc = .ok (.lookupswitch dflt ps, len)) (hp : (ps.toList.zip (ps.toList.drop 1)).all (fun (a, next) => a.1 < next.1) = true) (ho : Op.lookupswitch.offset ps.toList dflt x.toInt = off) (ht : (pc : Int) + off = (tgt : Int)) (k : ZR l D M (tgt) L (S) I F sh v I' F' sh') : ZR l D M (pc) L (.int x :: S) I F sh v I' F' sh' := by
  intro p e R s m args below meth c A H locs cells slots Q ro ga ls hX hZ hl hc hs hr
  exact lv_lookup hX.1 hX.2.1 hd hp ho ht (k p e R s m args below meth c A H locs cells slots Q ro ga ls hX hZ hl hc hs hr)
theorem R_tableOut {dflt lo hi : Int} {offs : Array Int} {len : Nat} {x : Int32} {tgt : Nat} (hd : decode M.2.1 pc = .ok (.tableswitch dflt lo hi offs, len)) (h : x.toInt < lo ∨ hi < x.toInt) (ht : (pc : Int) + dflt = (tgt : Int)) (k : ZR l D M (tgt) L (S) I F sh v I' F' sh') : ZR l D M (pc) L (.int x :: S) I F sh v I' F' sh' := by
  intro p e R s m args below meth c A H locs cells slots Q ro ga ls hX hZ hl hc hs hr
  exact lv_tableOut hX.1 hX.2.1 hd h ht (k p e R s m args below meth c A H locs cells slots Q ro ga ls hX hZ hl hc hs hr)
theorem R_tableIn {dflt lo hi : Int} {offs : Array Int} {len : Nat} {x : Int32} {off : Int} {tgt : Nat} (hd : decode M.2.1 pc = .ok (.tableswitch dflt lo hi offs, len)) (h1 : ¬ x.toInt < lo) (h2 : ¬ hi < x.toInt) (ho : offs[(x.toInt - lo).toNat]? = some off) (ht : (pc : Int) + off = (tgt : Int)) (k : ZR l D M (tgt) L (S) I F sh v I' F' sh') : ZR l D M (pc) L (.int x :: S) I F sh v I' F' sh' := by
  intro p e R s m args below meth c A H locs cells slots Q ro ga ls hX hZ hl hc hs hr
  exact lv_tableIn hX.1 hX.2.1 hd h1 h2 ho ht (k p e R s m args below meth c A H locs cells slots Q ro ga ls hX hZ hl hc hs hr)
theorem zAg.rf {ro : Nat → Nat} {ga : Nat → ClassId} {sh : AS} : zAg ro ro ga ga sh sh := ⟨fun _ _ => rfl, fun _ => ⟨rfl, rfl⟩⟩
theorem R_iret {x : Int32} (hd : decode M.2.1 pc = .ok (.ireturn, 1)) : ZR l D M pc L [.int x] I F sh (some x) I F sh := by
  intro p e R s m args below meth c A H locs cells slots Q ro ga ls hX hZ hl hc hs hr
  have h := hr H locs ro ga pc ls hZ zAg.rf hd
  simp only [Nat.sub_self, Nat.add_zero] at h
  exact h
theorem R_ret (hd : decode M.2.1 pc = .ok (.return_, 1)) : ZR l D M pc L [] I F sh none I F sh := by
  intro p e R s m args below meth c A H locs cells slots Q ro ga ls hX hZ hl hc hs hr
  have h := hr H locs ro ga pc ls hZ zAg.rf hd
  simp only [Nat.sub_self, Nat.add_zero] at h
  exact h
end ZRows
end
section
/-! rows that read and write the memory -/
section ZHeap
variable {l : Launch} {D : va_G} {M : ZM} {pc : Nat} {L : List (Option Value)} {S : List Value} {I : AI} {F : AR} {sh : AS} {v : Option Int32} {I' : AI} {F' : AR} {sh' : AS}
theorem ZX.w {p : Program} {R : Room} {s : State} {m : MethodId} {args : Array Value} {meth : Method} {c : Code} {A : Nat → Prop} (hX : ZX D M p R s m args meth c A) {w : Cond} (h : w ∈ zT) : w.before args s = true := hX.2.2.2.2.1 w (List.mem_cons_of_mem _ h)
theorem ZX.n {p : Program} {R : Room} {s : State} {m : MethodId} {args : Array Value} {meth : Method} {c : Code} {A : Nat → Prop} (hX : ZX D M p R s m args meth c A) {w : Cond} (h : w ∈ zNl) : va_Nw w s := hX.2.2.2.2.2.1 w h
/-- the link of a field access: of the own class, or of a nest mate -/
def zFl (own : String) (idx : Nat) (c k : Nat) : Prop := Cond.fieldLink own idx (zTb c k).1 (zTb c k).2.1 (zTb c k).2.2.1 ∈ zT ∨ ∃ host, Cond.fieldLinkNest own idx (zTb c k).1 (zTb c k).2.1 (zTb c k).2.2.1 host ∈ zNl
theorem R_get {idx c k n a : Nat} (hd : decode M.2.1 pc = .ok (.getfield idx, 3)) (hf : zFl M.1.cls idx c k) (hs : sh[a]? = some (c, n)) (hc : c < 13) (hk : k < n) (hn : n = zNf c) (kk : ZR l D M (pc + 3) L ((if (zTy c k).isReference = true then (match F a k with | none => .null | some b => .ref b) else .int (I a k)) :: S) I F sh v I' F' sh') : ZR l D M pc L (.ref a :: S) I F sh v I' F' sh' := by
  intro p e R s m args below meth c0 A H locs cells slots Q ro ga ls hX hZ hl hcc hss hr
  subst hn
  have hv := zfs_get (ro := ro) (I := I) (F := F) (c := c) (a := a) hk
  have he := zw_get (ro := ro) (ga := ga) (I := I) (F := F) hs
  rw [zc_o hc] at he
  have K := kk p e R s m args below meth c0 A H locs cells slots Q ro ga ls hX hZ hl hcc hss hr
  have ev : zv ro (if (zTy c k).isReference = true then (match F a k with | none => .null | some b => .ref b) else .int (I a k)) = (if (zTy c k).isReference = true then va_rf ((F a k).map ro) else .int (I a k)) := by
    by_cases h : (zTy c k).isReference = true
    · rw [if_pos h, if_pos h]
      cases F a k <;> rfl
    · rw [if_neg h, if_neg h]
      rfl
  rw [List.map_cons, ev] at K
  rcases hf with hf | ⟨host, hf⟩
  · exact va_get (ci := c) (C := zRn c) (T := zTb c) (N := zNf c) hX.1 hX.2.1 hX.2.2.2.2.1 (fun w hw => List.mem_cons_of_mem _ (z_u hc w hw)) hX.2.2.2.1 hZ.2.2.2.1.1 hZ.1 a he (z_cl hc) k hk (hX.w hf) (fun _ h9 => h9) hv hd K
  · exact va_getN (ci := c) (C := zRn c) (T := zTb c) (N := zNf c) hX.1 hX.2.1 hX.2.2.2.2.1 (fun w hw => List.mem_cons_of_mem _ (z_u hc w hw)) hX.2.2.2.1 hZ.2.2.2.1.1 hZ.1 a he (z_cl hc) k hk (va_Nw.use rfl (hX.n hf)) (fun _ h9 => h9) hv hd K
/-- an int field read -/
theorem R_geti {idx a : Nat} (c k : Nat) {n : Nat} {x : Int32} (hd : decode M.2.1 pc = .ok (.getfield idx, 3)) (hf : zFl M.1.cls idx c k) (hs : sh[a]? = some (c, n)) (hc : (decide (c < 13) && decide (k < n) && decide (n = zNf c) && !(zTy c k).isReference) = true) (hx : I a k = x) (kk : ZR l D M (pc + 3) L (.int x :: S) I F sh v I' F' sh') : ZR l D M pc L (.ref a :: S) I F sh v I' F' sh' := by
  simp only [Bool.and_eq_true, decide_eq_true_eq, Bool.not_eq_true'] at hc
  refine R_get hd hf hs hc.1.1.1 hc.1.1.2 hc.1.2 ?_
  rw [hc.2, if_neg (by simp), hx]
  exact kk
/-- a reference field read -/
theorem R_getr {idx a : Nat} (c k : Nat) {n b : Nat} (hd : decode M.2.1 pc = .ok (.getfield idx, 3)) (hf : zFl M.1.cls idx c k) (hs : sh[a]? = some (c, n)) (hc : (decide (c < 13) && decide (k < n) && decide (n = zNf c) && (zTy c k).isReference) = true) (hx : F a k = some b) (kk : ZR l D M (pc + 3) L (.ref b :: S) I F sh v I' F' sh') : ZR l D M pc L (.ref a :: S) I F sh v I' F' sh' := by
  simp only [Bool.and_eq_true, decide_eq_true_eq] at hc
  refine R_get hd hf hs hc.1.1.1 hc.1.1.2 hc.1.2 ?_
  rw [if_pos hc.2, hx]
  exact kk
/-- a store of an int field -/
theorem R_puti {idx a : Nat} (c k : Nat) {n : Nat} {x : Int32} (hd : decode M.2.1 pc = .ok (.putfield idx, 3)) (hf : zFl M.1.cls idx c k) (hs : sh[a]? = some (c, n)) (hc : (decide (c < 13) && decide (k < n) && decide (n = zNf c) && !(zTy c k).isReference && !(zTb c k).2.2.2) = true) (hn : narrow (zTy c k) (.int x) = .int x) (hfit : fits (zTy c k) (.int x) = true) (kk : ZR l D M (pc + 3) L S (zu I a k x) F sh v I' F' sh') : ZR l D M pc L (.int x :: .ref a :: S) I F sh v I' F' sh' := by
  simp only [Bool.and_eq_true, decide_eq_true_eq, Bool.not_eq_true'] at hc
  obtain ⟨⟨⟨⟨h1, h2⟩, h3⟩, h4⟩, h5⟩ := hc
  intro p e R s m args below meth c0 A H locs cells slots Q ro ga ls hX hZ hl hcc hss hr
  subst h3
  have he := zw_get (ro := ro) (ga := ga) (I := I) (F := F) hs
  rw [zc_o h1] at he
  have hset : (zw ro ga I F sh).set a (ro a, .inr (c, (zfs ro I F c (zNf c) a).set k (.int x))) = zw ro ga (zu I a k x) F sh := by
    rw [zfs_setI h2 h4, ← zc_o (ga := ga) h1]
    exact zw_set hs zc_I
  have K : ∀ (H1 : Heap) (locs1 : List Loc), va_P D vwCl ((zw ro ga I F sh).set a (ro a, .inr (c, (zfs ro I F c (zNf c) a).set k (.int x)))) H1 → va_D A ((zw ro ga I F sh).set a (ro a, .inr (c, (zfs ro I F c (zNf c) a).set k (.int x)))) → va_S A s.heap H1 locs1 → W p l e R s m args below meth c0 H1 locs1 cells slots Q (F0 m (pc + 3) ls (S.map (zv ro))) := by
    intro H1 locs1 p1 d1 s1
    rw [hset] at p1 d1
    exact kk p e R s m args below meth c0 A H1 locs1 cells slots Q ro ga ls hX ⟨p1, d1, s1, hZ.2.2.2.1, hZ.2.2.2.2⟩ hl hcc hss hr
  rcases hf with hf | ⟨host, hf⟩
  · exact va_put (ci := c) (C := zRn c) (T := zTb c) (N := zNf c) hX.1 hX.2.1 hX.2.2.2.2.1 (fun w hw => List.mem_cons_of_mem _ (z_u h1 w hw)) (zTy c) (z_ty h1) (z_nm h1) hX.2.2.2.1 hZ.2.2.2.1.1 hZ.1 hZ.2.1 hZ.2.2.1 a he (z_cl h1) k h2 (hX.w hf) (fun _ h9 => h9) h5 (z_ty h1 k h2) hn hfit (by rw [zfs_len]; exact h2) hd K
  · exact va_putN (ci := c) (C := zRn c) (T := zTb c) (N := zNf c) hX.1 hX.2.1 hX.2.2.2.2.1 (fun w hw => List.mem_cons_of_mem _ (z_u h1 w hw)) (zTy c) (z_ty h1) (z_nm h1) hX.2.2.2.1 hZ.2.2.2.1.1 hZ.1 hZ.2.1 hZ.2.2.1 a he (z_cl h1) k h2 (va_Nw.use rfl (hX.n hf)) (fun _ h9 => h9) h5 (z_ty h1 k h2) hn hfit (by rw [zfs_len]; exact h2) hd K
/-- a store of a reference field, the value a cell that is there -/
theorem R_putr {idx a : Nat} (c k : Nat) {n b : Nat} (hd : decode M.2.1 pc = .ok (.putfield idx, 3)) (hf : zFl M.1.cls idx c k) (hs : sh[a]? = some (c, n)) (hc : (decide (c < 13) && decide (k < n) && decide (n = zNf c) && (zTy c k).isReference) = true) (hfin : (zTb c k).2.2.2 = false ∨ (M.1.name = "<init>" ∧ (zTb c k).1 = M.1.cls ∧ Cond.fieldLink M.1.cls idx (zTb c k).1 (zTb c k).2.1 (zTb c k).2.2.1 ∈ zT)) (hb : b < sh.length) (hn : ∀ q : Nat, narrow (zTy c k) (.ref q) = .ref q) (hfit : ∀ q : Nat, fits (zTy c k) (.ref q) = true) (kk : ZR l D M (pc + 3) L S I (zuR F a k (some b)) sh v I' F' sh') : ZR l D M pc L (.ref b :: .ref a :: S) I F sh v I' F' sh' := by
  simp only [Bool.and_eq_true, decide_eq_true_eq] at hc
  obtain ⟨⟨⟨h1, h2⟩, h3⟩, h4⟩ := hc
  intro p e R s m args below meth c0 A H locs cells slots Q ro ga ls hX hZ hl hcc hss hr
  subst h3
  have he := zw_get (ro := ro) (ga := ga) (I := I) (F := F) hs
  rw [zc_o h1] at he
  have hset : (zw ro ga I F sh).set a (ro a, .inr (c, (zfs ro I F c (zNf c) a).set k (.ref (ro b)))) = zw ro ga I (zuR F a k (some b)) sh := by
    rw [zfs_setF h2 h4, ← zc_o (ga := ga) h1]
    exact zw_set hs zc_F
  have hw : zFw (zuR F a k (some b)) sh.length := by
    intro x y z hz
    unfold zuR va_up at hz
    by_cases e1 : x = a
    · rw [if_pos e1] at hz
      by_cases e2 : y = k
      · rw [if_pos e2] at hz
        cases hz
        exact hb
      · rw [if_neg e2] at hz
        exact hZ.2.2.2.2 _ _ _ hz
    · rw [if_neg e1] at hz
      exact hZ.2.2.2.2 _ _ _ hz
  have K : ∀ (H1 : Heap) (locs1 : List Loc), va_P D vwCl ((zw ro ga I F sh).set a (ro a, .inr (c, (zfs ro I F c (zNf c) a).set k (.ref (ro b))))) H1 → va_D A ((zw ro ga I F sh).set a (ro a, .inr (c, (zfs ro I F c (zNf c) a).set k (.ref (ro b))))) → va_S A s.heap H1 locs1 → W p l e R s m args below meth c0 H1 locs1 cells slots Q (F0 m (pc + 3) ls (S.map (zv ro))) := by
    intro H1 locs1 p1 d1 s1
    rw [hset] at p1 d1
    exact kk p e R s m args below meth c0 A H1 locs1 cells slots Q ro ga ls hX ⟨p1, d1, s1, hZ.2.2.2.1, hw⟩ hl hcc hss hr
  rcases hfin with h5 | ⟨hi, h5, h6⟩
  · rcases hf with hf | ⟨host, hf⟩
    · exact va_put (ci := c) (C := zRn c) (T := zTb c) (N := zNf c) hX.1 hX.2.1 hX.2.2.2.2.1 (fun w hw => List.mem_cons_of_mem _ (z_u h1 w hw)) (zTy c) (z_ty h1) (z_nm h1) hX.2.2.2.1 hZ.2.2.2.1.1 hZ.1 hZ.2.1 hZ.2.2.1 a he (z_cl h1) k h2 (hX.w hf) (fun _ h9 => h9) h5 (z_ty h1 k h2) (hn _) (hfit _) (by rw [zfs_len]; exact h2) hd K
    · exact va_putN (ci := c) (C := zRn c) (T := zTb c) (N := zNf c) hX.1 hX.2.1 hX.2.2.2.2.1 (fun w hw => List.mem_cons_of_mem _ (z_u h1 w hw)) (zTy c) (z_ty h1) (z_nm h1) hX.2.2.2.1 hZ.2.2.2.1.1 hZ.1 hZ.2.1 hZ.2.2.1 a he (z_cl h1) k h2 (va_Nw.use rfl (hX.n hf)) (fun _ h9 => h9) h5 (z_ty h1 k h2) (hn _) (hfit _) (by rw [zfs_len]; exact h2) hd K
  · by_cases h7 : (zTb c k).2.2.2 = true
    · exact va_putF (ci := c) (C := zRn c) (T := zTb c) (N := zNf c) hX.1 hX.2.1 hX.2.2.2.2.1 (fun w hw => List.mem_cons_of_mem _ (z_u h1 w hw)) (zTy c) (z_ty h1) (z_nm h1) hX.2.2.2.1 hZ.2.2.2.1.1 hZ.1 hZ.2.1 hZ.2.2.1 a he (z_cl h1) k h2 (hX.w h6) (fun _ h9 => h9) h7 (hX.2.2.2.2.2.2.2.2.2 hi) h5 (z_ty h1 k h2) (hn _) (hfit _) (by rw [zfs_len]; exact h2) hd K
    · exact va_put (ci := c) (C := zRn c) (T := zTb c) (N := zNf c) hX.1 hX.2.1 hX.2.2.2.2.1 (fun w hw => List.mem_cons_of_mem _ (z_u h1 w hw)) (zTy c) (z_ty h1) (z_nm h1) hX.2.2.2.1 hZ.2.2.2.1.1 hZ.1 hZ.2.1 hZ.2.2.1 a he (z_cl h1) k h2 (hX.w h6) (fun _ h9 => h9) (by simpa using h7) (z_ty h1 k h2) (hn _) (hfit _) (by rw [zfs_len]; exact h2) hd K
/-! arrays -/
theorem zarr {ro : Nat → Nat} {ga : Nat → ClassId} {s : State} {A : Nat → Prop} {H : Heap} {locs : List Loc} {a k n : Nat} (hZ : ZS D s A ro ga I F sh H locs) (hs : sh[a]? = some (k, n)) (h1 : 13 ≤ k) (h2 : k < 17) : (zw ro ga I F sh)[a]? = some (ro a, .inl (ga a, n, .inl (I a))) ∧ va_K D vwCl [(ga a, zKt k)] s := by
  have he := zw_get (ro := ro) (ga := ga) (I := I) (F := F) hs
  rw [zc_i (by omega) h2] at he
  exact ⟨he, hZ.2.2.2.1.2 a _ hs h1⟩
theorem z_in {i : Int32} {j n : Nat} (hi : i = nI j) (hj : j < n) (hn : n < 2 ^ 31) : vp_in i n ∧ i.toNatClampNeg = j := by
  subst hi
  exact ⟨vp_in_nI hj hn, nI_clamp (by omega)⟩
theorem R_iald {a n : Nat} {i : Int32} {x : Int32} (j : Nat) (hd : decode M.2.1 pc = .ok (.iaload, 1)) (hs : sh[a]? = some (15, n)) (hi : i = nI j) (hj : j < n) (hn : n < 2 ^ 31) (hx : I a j = x) (kk : ZR l D M (pc + 1) L (.int x :: S) I F sh v I' F' sh') : ZR l D M pc L (.int i :: .ref a :: S) I F sh v I' F' sh' := by
  intro p e R s m args below meth c A H locs cells slots Q ro ga ls hX hZ hl hc hss hr
  obtain ⟨e1, e2⟩ := zarr hZ hs (by omega) (by omega)
  obtain ⟨h1, h2⟩ := z_in hi hj hn
  refine va_iald hX.1 hX.2.1 e2 hZ.1 a 0 e1 rfl h1 hd ?_
  rw [h2, hx]
  exact kk p e R s m args below meth c A H locs cells slots Q ro ga ls hX hZ hl hc hss hr
theorem R_bald {a n : Nat} {i : Int32} {x : Int32} (j : Nat) (hd : decode M.2.1 pc = .ok (.baload, 1)) (hs : sh[a]? = some (13, n)) (hi : i = nI j) (hj : j < n) (hn : n < 2 ^ 31) (hx : I a j = x) (kk : ZR l D M (pc + 1) L (.int x :: S) I F sh v I' F' sh') : ZR l D M pc L (.int i :: .ref a :: S) I F sh v I' F' sh' := by
  intro p e R s m args below meth c A H locs cells slots Q ro ga ls hX hZ hl hc hss hr
  obtain ⟨e1, e2⟩ := zarr hZ hs (by omega) (by omega)
  obtain ⟨h1, h2⟩ := z_in hi hj hn
  refine va_bald hX.1 hX.2.1 e2 hZ.1 a 0 e1 rfl h1 hd ?_
  rw [h2, hx]
  exact kk p e R s m args below meth c A H locs cells slots Q ro ga ls hX hZ hl hc hss hr
theorem R_zald {a n : Nat} {i : Int32} {x : Int32} (j : Nat) (hd : decode M.2.1 pc = .ok (.baload, 1)) (hs : sh[a]? = some (16, n)) (hi : i = nI j) (hj : j < n) (hn : n < 2 ^ 31) (hx : I a j = x) (kk : ZR l D M (pc + 1) L (.int x :: S) I F sh v I' F' sh') : ZR l D M pc L (.int i :: .ref a :: S) I F sh v I' F' sh' := by
  intro p e R s m args below meth c A H locs cells slots Q ro ga ls hX hZ hl hc hss hr
  obtain ⟨e1, e2⟩ := zarr hZ hs (by omega) (by omega)
  obtain ⟨h1, h2⟩ := z_in hi hj hn
  refine va_zald hX.1 hX.2.1 e2 hZ.1 a 0 e1 rfl h1 hd ?_
  rw [h2, hx]
  exact kk p e R s m args below meth c A H locs cells slots Q ro ga ls hX hZ hl hc hss hr
theorem R_cald {a n : Nat} {i : Int32} {x : Int32} (j : Nat) (hd : decode M.2.1 pc = .ok (.caload, 1)) (hs : sh[a]? = some (14, n)) (hi : i = nI j) (hj : j < n) (hn : n < 2 ^ 31) (hx : I a j = x) (kk : ZR l D M (pc + 1) L (.int x :: S) I F sh v I' F' sh') : ZR l D M pc L (.int i :: .ref a :: S) I F sh v I' F' sh' := by
  intro p e R s m args below meth c A H locs cells slots Q ro ga ls hX hZ hl hc hss hr
  obtain ⟨e1, e2⟩ := zarr hZ hs (by omega) (by omega)
  obtain ⟨h1, h2⟩ := z_in hi hj hn
  refine va_cald hX.1 hX.2.1 e2 hZ.1 a 0 e1 rfl h1 hd ?_
  rw [h2, hx]
  exact kk p e R s m args below meth c A H locs cells slots Q ro ga ls hX hZ hl hc hss hr
theorem R_iast {a n : Nat} {i : Int32} {x : Int32} (j : Nat) (hd : decode M.2.1 pc = .ok (.iastore, 1)) (hs : sh[a]? = some (15, n)) (hi : i = nI j) (hj : j < n) (hn : n < 2 ^ 31) (kk : ZR l D M (pc + 1) L S (zu I a j x) F sh v I' F' sh') : ZR l D M pc L (.int x :: .int i :: .ref a :: S) I F sh v I' F' sh' := by
  intro p e R s m args below meth c A H locs cells slots Q ro ga ls hX hZ hl hc hss hr
  obtain ⟨e1, e2⟩ := zarr hZ hs (by omega) (by omega)
  obtain ⟨h1, h2⟩ := z_in hi hj hn
  refine va_iast hX.1 hX.2.1 e2 hZ.1 hZ.2.1 hZ.2.2.1 a 0 e1 rfl h1 hd (fun H1 locs1 p1 d1 s1 => ?_)
  have hset : (zw ro ga I F sh).set a (ro a, .inl (ga a, n, .inl (upd (I a) i.toNatClampNeg x))) = zw ro ga (zu I a j x) F sh := by
    have h3 := zw_set (ro := ro) (ga := ga) (I := I) (J := zu I a j x) (F := F) (G := F) hs zc_I
    rw [zc_i (by omega) (by omega)] at h3
    rw [← h3, h2]
    simp [zu, va_up]
  rw [hset] at p1 d1
  exact kk p e R s m args below meth c A H1 locs1 cells slots Q ro ga ls hX ⟨p1, d1, s1, hZ.2.2.2.1, hZ.2.2.2.2⟩ hl hc hss hr
theorem R_bast {a n : Nat} {i : Int32} {x : Int32} (j : Nat) (hd : decode M.2.1 pc = .ok (.bastore, 1)) (hs : sh[a]? = some (13, n)) (hi : i = nI j) (hj : j < n) (hn : n < 2 ^ 31) (kk : ZR l D M (pc + 1) L S (zu I a j (vp_nar .byte x)) F sh v I' F' sh') : ZR l D M pc L (.int x :: .int i :: .ref a :: S) I F sh v I' F' sh' := by
  intro p e R s m args below meth c A H locs cells slots Q ro ga ls hX hZ hl hc hss hr
  obtain ⟨e1, e2⟩ := zarr hZ hs (by omega) (by omega)
  obtain ⟨h1, h2⟩ := z_in hi hj hn
  refine va_bast hX.1 hX.2.1 e2 hZ.1 hZ.2.1 hZ.2.2.1 a 0 e1 rfl h1 hd (fun H1 locs1 p1 d1 s1 => ?_)
  have hset : (zw ro ga I F sh).set a (ro a, .inl (ga a, n, .inl (upd (I a) i.toNatClampNeg (vp_nar .byte x)))) = zw ro ga (zu I a j (vp_nar .byte x)) F sh := by
    have h3 := zw_set (ro := ro) (ga := ga) (I := I) (J := zu I a j (vp_nar .byte x)) (F := F) (G := F) hs zc_I
    rw [zc_i (by omega) (by omega)] at h3
    rw [← h3, h2]
    simp [zu, va_up]
  rw [hset] at p1 d1
  exact kk p e R s m args below meth c A H1 locs1 cells slots Q ro ga ls hX ⟨p1, d1, s1, hZ.2.2.2.1, hZ.2.2.2.2⟩ hl hc hss hr
theorem R_zast {a n : Nat} {i : Int32} {x : Int32} (j : Nat) (hd : decode M.2.1 pc = .ok (.bastore, 1)) (hs : sh[a]? = some (16, n)) (hi : i = nI j) (hj : j < n) (hn : n < 2 ^ 31) (kk : ZR l D M (pc + 1) L S (zu I a j (vp_nar .boolean x)) F sh v I' F' sh') : ZR l D M pc L (.int x :: .int i :: .ref a :: S) I F sh v I' F' sh' := by
  intro p e R s m args below meth c A H locs cells slots Q ro ga ls hX hZ hl hc hss hr
  obtain ⟨e1, e2⟩ := zarr hZ hs (by omega) (by omega)
  obtain ⟨h1, h2⟩ := z_in hi hj hn
  refine va_zast hX.1 hX.2.1 e2 hZ.1 hZ.2.1 hZ.2.2.1 a 0 e1 rfl h1 hd (fun H1 locs1 p1 d1 s1 => ?_)
  have hset : (zw ro ga I F sh).set a (ro a, .inl (ga a, n, .inl (upd (I a) i.toNatClampNeg (vp_nar .boolean x)))) = zw ro ga (zu I a j (vp_nar .boolean x)) F sh := by
    have h3 := zw_set (ro := ro) (ga := ga) (I := I) (J := zu I a j (vp_nar .boolean x)) (F := F) (G := F) hs zc_I
    rw [zc_i (by omega) (by omega)] at h3
    rw [← h3, h2]
    simp [zu, va_up]
  rw [hset] at p1 d1
  exact kk p e R s m args below meth c A H1 locs1 cells slots Q ro ga ls hX ⟨p1, d1, s1, hZ.2.2.2.1, hZ.2.2.2.2⟩ hl hc hss hr
theorem R_cast {a n : Nat} {i : Int32} {x : Int32} (j : Nat) (hd : decode M.2.1 pc = .ok (.castore, 1)) (hs : sh[a]? = some (14, n)) (hi : i = nI j) (hj : j < n) (hn : n < 2 ^ 31) (kk : ZR l D M (pc + 1) L S (zu I a j (vp_nar .char x)) F sh v I' F' sh') : ZR l D M pc L (.int x :: .int i :: .ref a :: S) I F sh v I' F' sh' := by
  intro p e R s m args below meth c A H locs cells slots Q ro ga ls hX hZ hl hc hss hr
  obtain ⟨e1, e2⟩ := zarr hZ hs (by omega) (by omega)
  obtain ⟨h1, h2⟩ := z_in hi hj hn
  refine va_cast hX.1 hX.2.1 e2 hZ.1 hZ.2.1 hZ.2.2.1 a 0 e1 rfl h1 hd (fun H1 locs1 p1 d1 s1 => ?_)
  have hset : (zw ro ga I F sh).set a (ro a, .inl (ga a, n, .inl (upd (I a) i.toNatClampNeg (vp_nar .char x)))) = zw ro ga (zu I a j (vp_nar .char x)) F sh := by
    have h3 := zw_set (ro := ro) (ga := ga) (I := I) (J := zu I a j (vp_nar .char x)) (F := F) (G := F) hs zc_I
    rw [zc_i (by omega) (by omega)] at h3
    rw [← h3, h2]
    simp [zu, va_up]
  rw [hset] at p1 d1
  exact kk p e R s m args below meth c A H1 locs1 cells slots Q ro ga ls hX ⟨p1, d1, s1, hZ.2.2.2.1, hZ.2.2.2.2⟩ hl hc hss hr
theorem R_alen {a k n : Nat} {x : Int32} (hd : decode M.2.1 pc = .ok (.arraylength, 1)) (hs : sh[a]? = some (k, n)) (h1 : 13 ≤ k) (h2 : k < 17) (hx : nI n = x) (kk : ZR l D M (pc + 1) L (.int x :: S) I F sh v I' F' sh') : ZR l D M pc L (.ref a :: S) I F sh v I' F' sh' := by
  intro p e R s m args below meth c A H locs cells slots Q ro ga ls hX hZ hl hc hss hr
  obtain ⟨e1, e2⟩ := zarr hZ hs h1 h2
  exact va_alen hX.1 hX.2.1 e2 hZ.1 a 0 e1 rfl hx hd (kk p e R s m args below meth c A H locs cells slots Q ro ga ls hX hZ hl hc hss hr)
theorem zarq {ro : Nat → Nat} {ga : Nat → ClassId} {s : State} {A : Nat → Prop} {H : Heap} {locs : List Loc} {a k n : Nat} (hZ : ZS D s A ro ga I F sh H locs) (hs : sh[a]? = some (k, n)) (h2 : ¬ k < 17) : (zw ro ga I F sh)[a]? = some (ro a, .inl (ga a, n, .inr (.inr (.inr (.inr (fun j => (F a j).map ro)))))) ∧ va_K D vwCl [(ga a, zKt k)] s := by
  have he := zw_get (ro := ro) (ga := ga) (I := I) (F := F) hs
  rw [zc_r h2] at he
  exact ⟨he, hZ.2.2.2.1.2 a _ hs (by show 13 ≤ k; omega)⟩
/-- a row of references read, its place held -/
theorem R_aald {a k n b : Nat} {i : Int32} (j : Nat) (hd : decode M.2.1 pc = .ok (.aaload, 1)) (hs : sh[a]? = some (k, n)) (hk : (k == 17 || k == 18) = true) (hi : i = nI j) (hj : j < n) (hn : n < 2 ^ 31) (hx : F a j = some b) (kk : ZR l D M (pc + 1) L (.ref b :: S) I F sh v I' F' sh') : ZR l D M pc L (.int i :: .ref a :: S) I F sh v I' F' sh' := by
  intro p e R s m args below meth c A H locs cells slots Q ro ga ls hX hZ hl hc hss hr
  have hk2 : k = 17 ∨ k = 18 := by simpa using hk
  obtain ⟨e1, e2⟩ := zarq hZ hs (by omega)
  obtain ⟨h1, h2⟩ := z_in hi hj hn
  have K := kk p e R s m args below meth c A H locs cells slots Q ro ga ls hX hZ hl hc hss hr
  have hty : (zKt k).isReference = true := by rcases hk2 with rfl | rfl <;> rfl
  have hlt : i.toNatClampNeg < n := by omega
  refine W.aald (v := .ref (ro b)) (ty := zKt k) hX.1 hX.2.1 (hZ.1 a _ e1) ((e2.2 0 _ rfl).1 n (fun j => va_rf ((F a j).map ro))) hty (fun q => by cases q) (by show ¬ (i < 0 ∨ (arrV _ _ _).slots.size ≤ _); rw [arrV_size]; exact h1) (by show (arrV _ _ _).slots[_]? = _; rw [arrV_read _ _ hlt, h2]; show some (va_rf (Option.map ro (F a j))) = _; rw [hx]; rfl) rfl rfl hd K
theorem R_copyi {a0 a1 n0 n1 idx : Nat} {sp dp n : Int32} (j : Nat) (hd : decode M.2.1 pc = .ok (.invokestatic idx, 3)) (hl0 : Cond.methodLink M.1.cls idx arraycopyName ∈ zT) (hnat : Cond.native arraycopyName ∈ zT) (hst : Cond.static arraycopyName ∈ zT) (hin : Cond.initialized "java/lang/System" ∈ zT) (hs0 : sh[a0]? = some (15, n0)) (hs1 : sh[a1]? = some (15, n1)) (hsp : sp = 0) (hdp : dp = 0) (hn : n = nI j) (hj0 : j ≤ n0) (hj1 : j ≤ n1) (hj : j < 2 ^ 31) (hf : 1 ≤ M.2.2.2.2.1) (hlo : (S.map fun v => v.category).sum + (nativeFrameWords "java/lang/System" "arraycopy" 5 + 11) ≤ M.2.2.2.2.2.1) (kk : ZR l D M (pc + 3) L S (va_up I a1 (va_cpy (I a0) (I a1) 0 0 j)) F sh v I' F' sh') : ZR l D M pc L (.int n :: .int dp :: .ref a1 :: .int sp :: .ref a0 :: S) I F sh v I' F' sh' := by
  intro p e R s m args below meth c A H locs cells slots Q ro ga ls hX hZ hl hc hss hr
  obtain ⟨e1, e2⟩ := zarr hZ hs0 (by omega) (by omega)
  obtain ⟨f1, f2⟩ := zarr hZ hs1 (by omega) (by omega)
  subst hsp hdp hn
  have hz : (0 : Int32).toNatClampNeg = 0 := rfl
  have hcat : ((S.map (zv ro)).map fun v => v.category).sum = (S.map fun v => v.category).sum := by
    rw [List.map_map]
    congr 1
    exact List.map_congr_left (fun a _ => zv_cat ro a)
  refine va_copyi (own := M.1.cls) hX.1 hX.2.1 (by rw [hl.1]; exact hX.2.2.1) hX.2.2.2.1 (hX.w hl0) (hX.w hnat) (hX.w hst) (hX.w hin) (va_K.app e2 f2) hZ.1 hZ.2.1 hZ.2.2.1 a0 a1 0 1 e1 f1 rfl rfl rfl (by decide) (by decide) (nI_pos hj) (by rw [hz, nI_clamp hj]; omega) (by rw [hz, nI_clamp hj]; omega) (fun i hi => rfl) (Nat.le_trans hf hX.2.2.2.2.2.2.1) (by rw [hcat]; exact Nat.le_trans hlo hX.2.2.2.2.2.2.2.1) hd (fun H1 locs1 p1 d1 s1 => ?_)
  have hset : (zw ro ga I F sh).set a1 (ro a1, .inl (ga a1, n1, .inl (va_cpy (I a0) (I a1) (0 : Int32).toNatClampNeg (0 : Int32).toNatClampNeg (nI j).toNatClampNeg))) = zw ro ga (va_up I a1 (va_cpy (I a0) (I a1) 0 0 j)) F sh := by
    have h3 := zw_set (ro := ro) (ga := ga) (I := I) (J := va_up I a1 (va_cpy (I a0) (I a1) 0 0 j)) (F := F) (G := F) hs1 zc_I
    rw [zc_i (by omega) (by omega)] at h3
    rw [← h3, hz, nI_clamp hj]
    simp [va_up]
  rw [hset] at p1 d1
  exact kk p e R s m args below meth c A H1 locs1 cells slots Q ro ga ls hX ⟨p1, d1, s1, hZ.2.2.2.1, hZ.2.2.2.2⟩ hl hc hss hr
end ZHeap
end
section
/-! a method's contract out of its judgement, and the rows of calls -/
section ZCall
variable {l : Launch} {D : va_G} {M : ZM} {pc : Nat} {L : List (Option Value)} {S : List Value} {I : AI} {F : AR} {sh : AS} {v : Option Int32} {I' : AI} {F' : AR} {sh' : AS}
def zB (D : va_G) (A : Nat → Prop) (ro : Nat → Nat) (ga : Nat → ClassId) (I : AI) (F : AR) (sh : AS) (U : State) : Prop := va_P D vwCl (zw ro ga I F sh) U.heap ∧ zKs D ga sh U ∧ va_D A (zw ro ga I F sh) ∧ zFw F sh.length
def zPc (D : va_G) (ro : Nat → Nat) (ga : Nat → ClassId) (I : AI) (F : AR) (sh : AS) (sz : Nat) (As : List Value) : Array Value → State → Prop := va_Pc (As.map (zv ro)) (fun U => U.heap.size = sz ∧ zB D (fun _ => True) ro ga I F sh U ∧ zNs U)
def zQc (D : va_G) (ro : Nat → Nat) (ga : Nat → ClassId) (A1 : Nat → Prop) (sh : AS) (v : Option Int32) (I' : AI) (F' : AR) (sh' : AS) : Array Value → State → Outcome → State → Prop := fun _ st oc t => oc = .returned (v.map Value.int) ∧ (∃ (ro' : Nat → Nat) (ga' : Nat → ClassId), zB D A1 ro' ga' I' F' sh' t ∧ zAg ro ro' ga ga' sh sh') ∧ va_F A1 st t
/-- the locals at a method's entry: its arguments (none of them a long), then nothing -/
def zent (n : Nat) (As : List Value) : List (Option Value) := As.map some ++ List.replicate (n - As.length) none
theorem lv_args_at {As : List Value} (h : ∀ a ∈ As, a.category = 1) : ∀ (k i : Nat) (a : Value), As[i]? = some a → (k + i, a) ∈ lv_args k As := by
  induction As with
  | nil => intro k i a h1; simp at h1
  | cons b As ih =>
    intro k i a h1
    have hb : b.category = 1 := h b List.mem_cons_self
    cases i with
    | zero =>
      simp only [List.getElem?_cons_zero, Option.some.injEq] at h1
      subst h1
      exact List.mem_cons_self
    | succ i =>
      simp only [List.getElem?_cons_succ] at h1
      have := ih (fun a ha => h a (List.mem_cons_of_mem _ ha)) (k + 1) i a h1
      unfold lv_args
      rw [if_neg (by omega)]
      rw [show k + (i + 1) = k + 1 + i by omega]
      exact List.mem_cons_of_mem _ this
theorem zh_entry {ro : Nat → Nat} {n : Nat} {As : List Value} (h : ∀ a ∈ As, a.category = 1) {ls : Array Slot} (hl : lv_has ls n (lv_args 0 (As.map (zv ro)))) : zh ro ls n (zent n As) := by
  refine ⟨hl.1, hl.2.1, fun i a hi => ?_⟩
  unfold zent at hi
  by_cases hlt : i < As.length
  · rw [List.getElem?_append_left (by rw [List.length_map]; exact hlt), List.getElem?_map] at hi
    cases ha : As[i]? with
    | none => rw [ha] at hi; cases hi
    | some b =>
      rw [ha] at hi
      cases hi
      have h1 := lv_args_at (As := As.map (zv ro)) (fun x hx => by
        obtain ⟨y, hy, rfl⟩ := List.mem_map.mp hx
        rw [zv_cat]; exact h y hy) 0 i (zv ro a) (by rw [List.getElem?_map, ha]; rfl)
      rw [Nat.zero_add] at h1
      exact hl.2.2 _ h1
  · rw [List.getElem?_append_right (by rw [List.length_map]; omega)] at hi
    have := List.mem_of_getElem? hi
    rw [List.mem_replicate] at this
    cases this.2
theorem zsl_len (vs : List Value) (h : ∀ a ∈ vs, a.category = 1) : (lg_sl vs).length = vs.length := by
  induction vs with
  | nil => rfl
  | cons b vs ih =>
    have hb : b.category = 1 := h b List.mem_cons_self
    unfold lg_sl at ih ⊢
    rw [List.flatMap_cons, if_neg (by omega), List.length_append, ih (fun a ha => h a (List.mem_cons_of_mem _ ha))]
    simp; omega
theorem zB.moved {D : va_G} {A : Nat → Prop} {ro : Nat → Nat} {ga : Nat → ClassId} {I : AI} {F : AR} {sh : AS} {u U : State} (hvm : u.vm.Alike U.vm) (hh : U.heap = u.heap) (h : zB D A ro ga I F sh u) : zB D A ro ga I F sh U := ⟨by rw [hh]; exact h.1, h.2.1.moved hvm, h.2.2⟩
/-- what a method must bring to be called: its return is void, an int or a boolean -/
def zRet (ret : Option FieldType) (v : Option Int32) : Prop := match v with
  | none => ret = none
  | some x => ret = some .int ∨ ∃ ty, ret = some ty ∧ narrow ty (.int x) = .int x
theorem Z_met {N : ZM} {As : List Value} {sz : Nat} {ro : Nat → Nat} {ga : Nat → ClassId} (hp : plainName N.1.cls = true) (hcat : (As.all fun a => a.category == 1) = true) (hlen : As.length ≤ N.2.2.1) (hret : zRet N.2.2.2.1 v) (h : ZR l D N 0 (zent N.2.2.1 As) [] I F sh v I' F' sh') :
    Met l N.1 (zws N) ({ frames := N.2.2.2.2.1, cells := sh'.length - sh.length, slots := zsl sh' - zsl sh, locals := N.2.2.2.2.2.1 }) (zPc D ro ga I F sh sz As) (zQc D ro ga (va_A (zw ro ga I F sh) sz) sh v I' F' sh') (sh'.length - sh.length) (zsl sh' - zsl sh) (va_A (zw ro ga I F sh) sz) := by
  have hcat' : ∀ a ∈ As, a.category = 1 := fun a ha => by simpa using List.all_eq_true.mp hcat a ha
  refine Met.ofW (cc := N.2.1) (maxL := N.2.2.1) (ret := N.2.2.2.1) hp rfl ?_
  intro p e s m args below meth c s₁ B hml hv
  obtain ⟨rfl, hsz, ⟨hP, hK, hD0, hFw⟩, hNs⟩ := hv
  have hr := B.returns
  have hts := atoms_spec (ws := zws N) B.pre
  have hown : s.vm.findClass N.1.cls = some m.cls := findClass_of_methodNamed B.named
  have hlocks := B.notSynchronized
  subst hsz
  have hD := hD0.self (sz := s.heap.size)
  generalize hAe : va_A (zw ro ga I F sh) s.heap.size = A at hD ⊢
  have hA : ∀ q : Nat, s.heap.size ≤ q → A q := fun q h => by rw [← hAe]; exact Or.inr h
  have hS : va_S A s.heap s.heap [] := va_S.rf
  have hl := lv_entry (As.map (zv ro)) (n := N.2.2.1) (by rw [zsl_len _ (fun x hx => by obtain ⟨y, hy, rfl⟩ := List.mem_map.mp hx; rw [zv_cat]; exact hcat' y hy), List.length_map]; exact hlen)
  rw [lg_entry_eq]
  generalize (lg_sl (As.map (zv ro)) ++ List.replicate (N.2.2.1 - (lg_sl (As.map (zv ro))).length) Slot.unset).toArray = ls at hl ⊢
  refine h p e _ s m _ below meth c A s.heap [] 0 0 _ ro ga ls ⟨B.exec, B.bytes, hml, hown, hts, hNs, Nat.le_refl _, Nat.le_refl _, hA, fun hn => (name_of_methodNamed B.named B.method).1.trans hn⟩ ⟨hP, hD, hS, hK, hFw⟩ (zh_entry hcat' hl) (Nat.le_of_eq (Nat.zero_add _)) (Nat.le_of_eq (Nat.zero_add _)) ?_
  intro H' locs' ro' ga' pc' ls' hZ hag hdec
  rw [Nat.zero_add, Nat.zero_add]
  have hq : ∀ t : State, t.heap = H' → s.WarmedH t.vm → zQc D ro ga A sh v I' F' sh' ((As.map (zv ro)).toArray) s (.returned (v.map Value.int)) t := fun t ht hW => ⟨rfl, ⟨ro', ga', ⟨by rw [ht]; exact hZ.1, hZ.2.2.2.1.moved hW.alike, hZ.2.1, hZ.2.2.2.2⟩, hag⟩, hZ.2.2.1.F ht⟩
  cases v with
  | none =>
    have hr0 : meth.sig.returnType = none := hr.trans hret
    exact W.vret B.exec B.bytes hr0 hq hZ.2.2.1.2.2 hdec
  | some x =>
    rcases hret with h1 | ⟨ty, h1, h2⟩
    · exact W.iret B.exec B.bytes (hr.trans h1) hq hZ.2.2.1.2.2 hdec
    · exact W.zret B.exec B.bytes (hr.trans h1) h2 hq hZ.2.2.1.2.2 hdec
theorem zPc_blind {ro : Nat → Nat} {ga : Nat → ClassId} {sz : Nat} {As : List Value} : FrameBlind (zPc D ro ga I F sh sz As) := by
  intro a U g mk h
  obtain ⟨h1, h2, h3, h4⟩ := h
  exact ⟨h1, h2, h3.moved (u := U) (U := U.calling g mk a) (Vm.Alike.refl U.vm) rfl, zNs.same (u := U) (U := U.calling g mk a) rfl h4⟩
theorem zPc_at {ro : Nat → Nat} {ga : Nat → ClassId} {s : State} {A : Nat → Prop} {H : Heap} {locs : List Loc} {As : List Value} (hZ : ZS D s A ro ga I F sh H locs) (hN : zNs s) : ∀ U : State, U.heap = H → s.WarmedH U.vm → zPc D ro ga I F sh H.size As (As.map (zv ro)).toArray U :=
  fun U hU hW => ⟨rfl, by rw [hU], ⟨by rw [hU]; exact hZ.1, hZ.2.2.2.1.moved hW.alike, ⟨hZ.2.1.1, fun _ _ _ => trivial⟩, hZ.2.2.2.2⟩, hN.warm hW⟩
theorem zA_sub {ro : Nat → Nat} {ga : Nat → ClassId} {s : State} {A : Nat → Prop} {H : Heap} {locs : List Loc} (hZ : ZS D s A ro ga I F sh H locs) (hA : ∀ q, s.heap.size ≤ q → A q) : ∀ q, va_A (zw ro ga I F sh) H.size q → A q := by
  intro q h
  rcases h with ⟨k, e, h⟩ | h
  · exact hZ.2.1.2 k _ h
  · exact hA q (Nat.le_trans hZ.2.2.1.1 h)
/-- behind a call: on with its answer and its memory. Cells that are new to the caller come only where the locals and the stack name old ones. -/
theorem Z_after {J : AI} {G : AR} {th : AS} {u : Option Int32} {p : Program} {e : Env} {R : Room} {s : State} {m : MethodId} {args : Array Value} {below : List Frame} {meth : Method} {c : Code} {A : Nat → Prop} {H : Heap} {locs : List Loc} {cells slots : Nat} {Q : State → Prop} {ro : Nat → Nat} {ga : Nat → ClassId} {ls : Array Slot} {st0 : List Value} {a : Array Value}
    (hX : ZX D M p R s m args meth c A) (hZ : ZS D s A ro ga I F sh H locs) (hl : zh ro ls M.2.2.1 L) (hc : cells + (sh'.length - sh.length) ≤ R.cells) (hs : slots + (zsl sh' - zsl sh) ≤ R.slots) (hr : ZE l D M sh v I' F' sh' p e R s m args below meth c A cells slots Q ro ga)
    (hnew : th = sh ∨ (sh.length < th.length ∧ th.length ≤ sh'.length ∧ zsl sh ≤ zsl th ∧ zsl th ≤ zsl sh' ∧ (∀ b, Value.ref b ∈ S → b < sh.length ∨ 90000 ≤ b) ∧ ∀ b, some (Value.ref b) ∈ L → b < sh.length ∨ 90000 ≤ b))
    (hrun : va_Run p l e R s m args below meth c H locs cells slots (th.length - sh.length) (zsl th - zsl sh) (F0 m pc ls st0) (S.map (zv ro)) (zQc D ro ga (va_A (zw ro ga I F sh) H.size) sh u J G th a) (va_A (zw ro ga I F sh) H.size))
    (kk : ZR l D M (pc + 3) L (u.toList.map Value.int ++ S) J G th v I' F' sh') : W p l e R s m args below meth c H locs cells slots Q (F0 m pc ls st0) := by
  intro T hT X
  obtain ⟨w, st₀, t, T', Lc, h0, X', hL, e1, e2, ⟨hw, ⟨ro', ga', hB, hag⟩, hz, hk⟩, st⟩ := hrun T hT X
  have hw' : w = u.map Value.int := by cases hw; rfl
  subst hw'
  rw [h0] at hz hk
  have hAs := zA_sub hZ hX.2.2.2.2.2.2.2.2.1
  have hS1 : va_S A s.heap T'.heap (locs ++ Lc) := ⟨Nat.le_trans hZ.2.2.1.1 (by rw [e1]; exact hz), fun q h1 h2 => by rw [e1, hk q (Nat.lt_of_lt_of_le h1 hZ.2.2.1.1) (fun z => h2 (hAs q z))]; exact hZ.2.2.1.2.1 q h1 h2, fun q hq => by
      rcases List.mem_append.mp hq with h | h
      · exact hZ.2.2.1.2.2 q h
      · exact hAs _ (hL q h)⟩
  have hvm : t.vm.Alike s.vm := by rw [← e2]; exact X'.warmed.alike.symm
  have hZ1 : ZS D s A ro' ga' J G th T'.heap (locs ++ Lc) := ⟨by rw [e1]; exact hB.1, ⟨hB.2.2.1.1, fun k q hq => hAs _ (hB.2.2.1.2 k q hq)⟩, hS1, hB.2.1.moved hvm, hB.2.2.2⟩
  have hstk : (u.map Value.int).toList ++ S.map (zv ro) = (u.toList.map Value.int ++ S).map (zv ro') := by
    have hSS : S.map (zv ro) = S.map (zv ro') := by
      rcases hnew with rfl | ⟨-, -, -, -, hS, -⟩
      · rw [(hag.2 rfl).1]
      · refine List.map_congr_left fun x hx => ?_
        cases x with
        | ref b => show Value.ref (ro b) = Value.ref (ro' b); rw [hag.1 b (hS b hx)]
        | _ => rfl
    rw [List.map_append, hSS]
    cases u <;> rfl
  have hl1 : zh ro' ls M.2.2.1 L := by
    rcases hnew with rfl | ⟨-, -, -, -, -, hLL⟩
    · rw [(hag.2 rfl).1]; exact hl
    · refine ⟨hl.1, hl.2.1, fun i x hi => ?_⟩
      rw [hl.2.2 i x hi]
      cases x with
      | ref b => show some (Slot.val (.ref (ro b))) = some (Slot.val (.ref (ro' b))); rw [hag.1 b (hLL b (List.mem_of_getElem? hi))]
      | _ => rfl
  have hcs : cells + (th.length - sh.length) + (sh'.length - th.length) = cells + (sh'.length - sh.length) ∧ slots + (zsl th - zsl sh) + (zsl sh' - zsl th) = slots + (zsl sh' - zsl sh) := by
    rcases hnew with rfl | ⟨h1, h2, h3, h4, -, -⟩
    · simp
    · omega
  have K := kk p e R s m args below meth c A T'.heap (locs ++ Lc) (cells + (th.length - sh.length)) (slots + (zsl th - zsl sh)) Q ro' ga' ls hX hZ1 hl1 (by rw [hcs.1]; exact hc) (by rw [hcs.2]; exact hs) (by
    intro H2 locs2 ro2 ga2 pc2 ls2 hZ2 hag2 hd2
    rw [hcs.1, hcs.2]
    refine hr H2 locs2 ro2 ga2 pc2 ls2 hZ2 ?_ hd2
    rcases hnew with rfl | ⟨h1, h2, -, -, -, -⟩
    · obtain ⟨r1, r2⟩ := hag.2 rfl
      subst r1 r2
      exact hag2
    · refine ⟨fun b hb => ?_, fun hsh => ?_⟩
      · rw [hag2.1 b (by rcases hb with hb | hb <;> omega), hag.1 b hb]
      · subst hsh; omega)
  rw [← hstk] at K
  obtain ⟨t2, a1, b1⟩ := K T' rfl X'
  exact ⟨t2, st t2 a1, b1⟩
/-- what is the same of a callee at every call: its words, its class, how many arguments, what it returns -/
def zOk (N : ZM) (n : Nat) : Prop := Cond.code N.1 N.2.1 N.2.2.1 N.2.2.2.1 ∈ zT ∧ Cond.initialized N.1.cls ∈ zT ∧ plainName N.1.cls = true ∧ (N.1.cls ≠ "java/lang/invoke/MethodHandle" ∧ N.1.cls ≠ "java/lang/invoke/VarHandle" ∧ (parseMethodDescriptor N.1.desc).map (fun d => d.parameters.length) = some n)
def zMl (own : String) (idx : Nat) (y : MethodName) : Prop := Cond.methodLink own idx y ∈ zT ∨ ∃ host, Cond.methodLinkNest own idx y host ∈ zNl
def zRm (M N : ZM) : Prop := N.2.2.2.2.1 + 1 ≤ M.2.2.2.2.1 ∧ 8 + (N.2.2.1 + 11) + N.2.2.2.2.2.1 ≤ M.2.2.2.2.2.1
def zNew (L : List (Option Value)) (S : List Value) (sh th sh' : AS) : Prop := th = sh ∨ (sh.length < th.length ∧ th.length ≤ sh'.length ∧ zsl sh ≤ zsl th ∧ zsl th ≤ zsl sh' ∧ (∀ b, Value.ref b ∈ S → b < sh.length ∨ 90000 ≤ b) ∧ ∀ b, some (Value.ref b) ∈ L → b < sh.length ∨ 90000 ≤ b)
theorem zNew.rf : zNew L S sh sh sh' := Or.inl rfl
theorem zcat {ro : Nat → Nat} (h : (S.map fun v => v.category).sum ≤ 8) : ((S.map (zv ro)).map fun v => v.category).sum ≤ 8 := by
  rw [List.map_map]
  rw [show S.map ((fun v => v.category) ∘ zv ro) = S.map (fun v => v.category) from List.map_congr_left (fun a _ => zv_cat ro a)]
  exact h
theorem zfit {J : AI} {th : AS} {R : Room} {cells slots : Nat} (hc : cells + (sh'.length - sh.length) ≤ R.cells) (hs : slots + (zsl sh' - zsl sh) ≤ R.slots) (hn : zNew L S sh th sh') : cells + (th.length - sh.length) ≤ R.cells ∧ slots + (zsl th - zsl sh) ≤ R.slots := by
  rcases hn with rfl | ⟨h1, h2, h3, h4, -, -⟩
  · simp; omega
  · omega
/-- an instance method called: of the own class, or of a nest mate -/
theorem R_callV {N : ZM} {idx n b k kn : Nat} {As : List Value} {J : AI} {G : AR} {th : AS} {u : Option Int32} (hN : ZR l D N 0 (zent N.2.2.1 (.ref b :: As)) [] I F sh u J G th) (hd : decode M.2.1 pc = .ok (.invokevirtual idx, 3)) (ho : zOk N n) (hm : zMl M.1.cls idx N.1) (hi : Cond.instanceMethod N.1 ∈ zT ∧ Cond.selects N.1.cls N.1 N.1 ∈ zT) (hrm : zRm M N) (hret : zRet N.2.2.2.1 u) (hcat : (As.all fun a => a.category == 1) = true) (hlen : As.length = n ∧ n + 1 ≤ N.2.2.1) (hb : sh[b]? = some (k, kn)) (hk : k < 13 ∧ zRn k = N.1.cls) (hst : (S.map fun v => v.category).sum ≤ 8) (hnew : zNew L S sh th sh')
    (kk : ZR l D M (pc + 3) L (u.toList.map Value.int ++ S) J G th v I' F' sh') : ZR l D M pc L (As.reverse ++ .ref b :: S) I F sh v I' F' sh' := by
  intro p e R s m args below meth c A H locs cells slots Q ro ga ls hX hZ hl hc hs hr
  have hM := Z_met (sz := H.size) (ro := ro) (ga := ga) ho.2.2.1 (As := .ref b :: As) (by rw [List.all_cons, hcat]; rfl) (by rw [List.length_cons]; omega) hret hN
  have he := zw_get (ro := ro) (ga := ga) (I := I) (F := F) hb
  rw [zc_o hk.1] at he
  have hrecv := va_recv (q := (zRn k, zTb k, zNf k)) hZ.2.2.2.1.1 hZ.1 (z_cl hk.1) he
  rw [hk.2] at hrecv
  have hfit := zfit (J := J) hc hs hnew
  have hpre : PreV s H N.1.cls (ro b) (zPc D ro ga I F sh H.size (.ref b :: As)) (As.map (zv ro)) := ⟨zPc_blind, hrecv, zPc_at hZ hX.2.2.2.2.2.1⟩
  have hstk : (As.reverse ++ .ref b :: S).map (zv ro) = (As.map (zv ro)).reverse ++ .ref (ro b) :: S.map (zv ro) := by
    rw [List.map_append, List.map_reverse]; rfl
  have hcode := ho.1
  have hRm : N.2.2.2.2.1 + 1 ≤ R.frames ∧ 8 + (N.2.2.1 + 11) + N.2.2.2.2.2.1 ≤ R.locals := ⟨Nat.le_trans hrm.1 hX.2.2.2.2.2.2.1, Nat.le_trans hrm.2 hX.2.2.2.2.2.2.2.1⟩
  refine Z_after (a := (Value.ref (ro b) :: As.map (zv ro)).toArray) hX hZ hl hc hs hr hnew ?_ kk
  rcases hm with hm | ⟨host, hm⟩
  · refine va_runV (n := n) (bytes := N.2.1) (maxL := N.2.2.1) (ret := N.2.2.2.1) (C := N.1.cls) (own := M.1.cls) (As := As.map (zv ro)) (rest := S.map (zv ro)) ⟨hX.1, hX.2.1, hX.2.2.1, hX.2.2.2.1, hX.2.2.2.2.1⟩ hM ⟨callB_of n hX.2.2.2.2.1 (z_goodIn hcode) rfl rfl rfl (hX.w ho.2.1) (hX.w hm) ho.2.2.2 hRm, hX.w hi.1, hX.w hi.2⟩ hpre rfl (by rw [List.length_map]; exact hlen.1) hl.1 hstk (lv_room (zcat hst)) hd hfit
  · refine va_runVN (n := n) (bytes := N.2.1) (maxL := N.2.2.1) (ret := N.2.2.2.1) (C := N.1.cls) (own := M.1.cls) (host := host) (As := As.map (zv ro)) (rest := S.map (zv ro)) ⟨hX.1, hX.2.1, hX.2.2.1, hX.2.2.2.1, hX.2.2.2.2.1⟩ hM ⟨va_cnB n hX.2.2.2.2.1 (z_goodIn hcode) rfl rfl rfl (hX.n hm) (hX.w ho.2.1) ho.2.2.2 hRm, hX.w hi.1, hX.w hi.2⟩ hpre rfl (by rw [List.length_map]; exact hlen.1) hl.1 hstk (lv_room (zcat hst)) hd hfit
/-- a static method called -/
theorem R_callS {N : ZM} {idx n : Nat} {As : List Value} {J : AI} {G : AR} {th : AS} {u : Option Int32} (hN : ZR l D N 0 (zent N.2.2.1 As) [] I F sh u J G th) (hd : decode M.2.1 pc = .ok (.invokestatic idx, 3)) (ho : zOk N n) (hm : zMl M.1.cls idx N.1) (hi : Cond.static N.1 ∈ zT) (hrm : zRm M N) (hret : zRet N.2.2.2.1 u) (hcat : (As.all fun a => a.category == 1) = true) (hlen : As.length = n ∧ n ≤ N.2.2.1) (hst : (S.map fun v => v.category).sum ≤ 8) (hnew : zNew L S sh th sh')
    (kk : ZR l D M (pc + 3) L (u.toList.map Value.int ++ S) J G th v I' F' sh') : ZR l D M pc L (As.reverse ++ S) I F sh v I' F' sh' := by
  intro p e R s m args below meth c A H locs cells slots Q ro ga ls hX hZ hl hc hs hr
  have hM := Z_met (sz := H.size) (ro := ro) (ga := ga) ho.2.2.1 (As := As) hcat (by omega) hret hN
  have hfit := zfit (J := J) hc hs hnew
  have hpre : PreS s H (zPc D ro ga I F sh H.size As) (As.map (zv ro)) := ⟨zPc_blind, zPc_at hZ hX.2.2.2.2.2.1⟩
  have hstk : (As.reverse ++ S).map (zv ro) = (As.map (zv ro)).reverse ++ S.map (zv ro) := by
    rw [List.map_append, List.map_reverse]
  have hcode := ho.1
  have hRm : N.2.2.2.2.1 + 1 ≤ R.frames ∧ 8 + (N.2.2.1 + 11) + N.2.2.2.2.2.1 ≤ R.locals := ⟨Nat.le_trans hrm.1 hX.2.2.2.2.2.2.1, Nat.le_trans hrm.2 hX.2.2.2.2.2.2.2.1⟩
  refine Z_after (a := (As.map (zv ro)).toArray) hX hZ hl hc hs hr hnew ?_ kk
  rcases hm with hm | ⟨host, hm⟩
  · refine va_runS (n := n) (bytes := N.2.1) (maxL := N.2.2.1) (ret := N.2.2.2.1) (own := M.1.cls) (As := As.map (zv ro)) (rest := S.map (zv ro)) ⟨hX.1, hX.2.1, hX.2.2.1, hX.2.2.2.1, hX.2.2.2.2.1⟩ hM ⟨callB_of n hX.2.2.2.2.1 (z_goodIn hcode) rfl rfl rfl (hX.w ho.2.1) (hX.w hm) ho.2.2.2 hRm, hX.w hi⟩ hpre rfl (by rw [List.length_map]; exact hlen.1) hl.1 hstk (lv_room (zcat hst)) hd hfit
  · refine va_runSN (n := n) (bytes := N.2.1) (maxL := N.2.2.1) (ret := N.2.2.2.1) (own := M.1.cls) (host := host) (As := As.map (zv ro)) (rest := S.map (zv ro)) ⟨hX.1, hX.2.1, hX.2.2.1, hX.2.2.2.1, hX.2.2.2.2.1⟩ hM ⟨va_cnB n hX.2.2.2.2.1 (z_goodIn hcode) rfl rfl rfl (hX.n hm) (hX.w ho.2.1) ho.2.2.2 hRm, hX.w hi, trivial⟩ hpre rfl (by rw [List.length_map]; exact hlen.1) hl.1 hstk (lv_room (zcat hst)) hd hfit
/-- a constructor called -/
theorem R_callI {N : ZM} {idx n b : Nat} {As : List Value} {J : AI} {G : AR} {th : AS} (hN : ZR l D N 0 (zent N.2.2.1 (.ref b :: As)) [] I F sh none J G th) (hd : decode M.2.1 pc = .ok (.invokespecial idx, 3)) (ho : zOk N n) (hm : zMl M.1.cls idx N.1) (hi : Cond.instanceMethod N.1 ∈ zT ∧ N.1.name = "<init>" ∧ N.2.2.2.1 = none) (hrm : zRm M N) (hcat : (As.all fun a => a.category == 1) = true) (hlen : As.length = n ∧ n + 1 ≤ N.2.2.1) (hst : (S.map fun v => v.category).sum ≤ 8) (hnew : zNew L S sh th sh')
    (kk : ZR l D M (pc + 3) L S J G th v I' F' sh') : ZR l D M pc L (As.reverse ++ .ref b :: S) I F sh v I' F' sh' := by
  intro p e R s m args below meth c A H locs cells slots Q ro ga ls hX hZ hl hc hs hr
  have hM := Z_met (sz := H.size) (ro := ro) (ga := ga) ho.2.2.1 (As := .ref b :: As) (by rw [List.all_cons, hcat]; rfl) (by rw [List.length_cons]; omega) (show zRet N.2.2.2.1 none from hi.2.2) hN
  have hfit := zfit (J := J) hc hs hnew
  have hpre : PreS s H (zPc D ro ga I F sh H.size (.ref b :: As)) (.ref (ro b) :: As.map (zv ro)) := ⟨zPc_blind, zPc_at (As := .ref b :: As) hZ hX.2.2.2.2.2.1⟩
  have hstk : (As.reverse ++ .ref b :: S).map (zv ro) = (As.map (zv ro)).reverse ++ .ref (ro b) :: S.map (zv ro) := by
    rw [List.map_append, List.map_reverse]; rfl
  have hcode := ho.1
  have hRm : N.2.2.2.2.1 + 1 ≤ R.frames ∧ 8 + (N.2.2.1 + 11) + N.2.2.2.2.2.1 ≤ R.locals := ⟨Nat.le_trans hrm.1 hX.2.2.2.2.2.2.1, Nat.le_trans hrm.2 hX.2.2.2.2.2.2.2.1⟩
  have hw2 : zws N = Cond.code N.1 N.2.1 N.2.2.1 none :: zT := by rw [← hi.2.2]
  refine Z_after (u := none) (a := (Value.ref (ro b) :: As.map (zv ro)).toArray) hX hZ hl hc hs hr hnew ?_ kk
  rcases hm with hm | ⟨host, hm⟩
  · refine va_runI (n := n) (bytes := N.2.1) (maxL := N.2.2.1) (own := M.1.cls) (As := As.map (zv ro)) (rest := S.map (zv ro)) ⟨hX.1, hX.2.1, hX.2.2.1, hX.2.2.2.1, hX.2.2.2.2.1⟩ hM ⟨callB_of n hX.2.2.2.2.1 (z_goodIn hcode) hw2 rfl rfl (hX.w ho.2.1) (hX.w hm) ho.2.2.2 hRm, hi.2.1, hX.w hi.1⟩ hpre rfl (by rw [List.length_map]; exact hlen.1) hl.1 hstk (lv_room (zcat hst)) hd hfit
  · refine va_runIN (n := n) (bytes := N.2.1) (maxL := N.2.2.1) (own := M.1.cls) (host := host) (As := As.map (zv ro)) (rest := S.map (zv ro)) ⟨hX.1, hX.2.1, hX.2.2.1, hX.2.2.2.1, hX.2.2.2.2.1⟩ hM ⟨va_cnB n hX.2.2.2.2.1 (z_goodIn hcode) hw2 rfl rfl (hX.n hm) (hX.w ho.2.1) ho.2.2.2 hRm, hi.2.1, hX.w hi.1⟩ hpre rfl (by rw [List.length_map]; exact hlen.1) hl.1 hstk (lv_room (zcat hst)) hd hfit
end ZCall
end
section
abbrev zm_X0_init : ZM := (yX0_init, cX0_init, 1, none, 1, 20, 0)
theorem ok_X0_init : zOk zm_X0_init 0 := ⟨zT_in 317 (by decide +kernel) (by decide +kernel), zT_in 89 (by decide +kernel) (by decide +kernel), by decide +kernel, by decide +kernel, by decide +kernel, by decide +kernel⟩
theorem ii_X0_init : Cond.instanceMethod yX0_init ∈ zT ∧ yX0_init.name = "<init>" ∧ (none : Option FieldType) = none := ⟨zT_in 316 (by decide +kernel) (by decide +kernel), rfl, rfl⟩
abbrev zm_X0_clear : ZM := (yX0_clear, cX0_clear, 1, none, 0, 0, 0)
theorem ok_X0_clear : zOk zm_X0_clear 0 := ⟨zT_in 535 (by decide +kernel) (by decide +kernel), zT_in 89 (by decide +kernel) (by decide +kernel), by decide +kernel, by decide +kernel, by decide +kernel, by decide +kernel⟩
theorem iv_X0_clear : Cond.instanceMethod yX0_clear ∈ zT ∧ Cond.selects yX0_clear.cls yX0_clear yX0_clear ∈ zT := ⟨zT_in 534 (by decide +kernel) (by decide +kernel), zT_in 19 (by decide +kernel) (by decide +kernel)⟩
abbrev zm_X0_note : ZM := (yX0_note, cX0_note, 7, none, 0, 0, 0)
theorem ok_X0_note : zOk zm_X0_note 5 := ⟨zT_in 696 (by decide +kernel) (by decide +kernel), zT_in 89 (by decide +kernel) (by decide +kernel), by decide +kernel, by decide +kernel, by decide +kernel, by decide +kernel⟩
theorem iv_X0_note : Cond.instanceMethod yX0_note ∈ zT ∧ Cond.selects yX0_note.cls yX0_note yX0_note ∈ zT := ⟨zT_in 695 (by decide +kernel) (by decide +kernel), zT_in 33 (by decide +kernel) (by decide +kernel)⟩
abbrev zm_X0_revertLatest : ZM := (yX0_revertLatest, cX0_revertLatest, 3, none, 2, 47, 0)
theorem ok_X0_revertLatest : zOk zm_X0_revertLatest 1 := ⟨zT_in 717 (by decide +kernel) (by decide +kernel), zT_in 89 (by decide +kernel) (by decide +kernel), by decide +kernel, by decide +kernel, by decide +kernel, by decide +kernel⟩
theorem iv_X0_revertLatest : Cond.instanceMethod yX0_revertLatest ∈ zT ∧ Cond.selects yX0_revertLatest.cls yX0_revertLatest yX0_revertLatest ∈ zT := ⟨zT_in 716 (by decide +kernel) (by decide +kernel), zT_in 35 (by decide +kernel) (by decide +kernel)⟩
abbrev zm_X1_init : ZM := (yX1_init, cX1_init, 1, none, 1, 20, 0)
theorem ok_X1_init : zOk zm_X1_init 0 := ⟨zT_in 387 (by decide +kernel) (by decide +kernel), zT_in 92 (by decide +kernel) (by decide +kernel), by decide +kernel, by decide +kernel, by decide +kernel, by decide +kernel⟩
theorem ii_X1_init : Cond.instanceMethod yX1_init ∈ zT ∧ yX1_init.name = "<init>" ∧ (none : Option FieldType) = none := ⟨zT_in 386 (by decide +kernel) (by decide +kernel), rfl, rfl⟩
abbrev zm_X1_clear : ZM := (yX1_clear, cX1_clear, 1, none, 0, 0, 0)
theorem ok_X1_clear : zOk zm_X1_clear 0 := ⟨zT_in 732 (by decide +kernel) (by decide +kernel), zT_in 92 (by decide +kernel) (by decide +kernel), by decide +kernel, by decide +kernel, by decide +kernel, by decide +kernel⟩
theorem iv_X1_clear : Cond.instanceMethod yX1_clear ∈ zT ∧ Cond.selects yX1_clear.cls yX1_clear yX1_clear ∈ zT := ⟨zT_in 731 (by decide +kernel) (by decide +kernel), zT_in 36 (by decide +kernel) (by decide +kernel)⟩
abbrev zm_X1_offerMost : ZM := (yX1_offerMost, cX1_offerMost, 3, none, 0, 0, 0)
theorem ok_X1_offerMost : zOk zm_X1_offerMost 2 := ⟨zT_in 751 (by decide +kernel) (by decide +kernel), zT_in 92 (by decide +kernel) (by decide +kernel), by decide +kernel, by decide +kernel, by decide +kernel, by decide +kernel⟩
theorem iv_X1_offerMost : Cond.instanceMethod yX1_offerMost ∈ zT ∧ Cond.selects yX1_offerMost.cls yX1_offerMost yX1_offerMost ∈ zT := ⟨zT_in 750 (by decide +kernel) (by decide +kernel), zT_in 40 (by decide +kernel) (by decide +kernel)⟩
abbrev zm_X1_offerLeast : ZM := (yX1_offerLeast, cX1_offerLeast, 3, none, 0, 0, 0)
theorem ok_X1_offerLeast : zOk zm_X1_offerLeast 2 := ⟨zT_in 763 (by decide +kernel) (by decide +kernel), zT_in 92 (by decide +kernel) (by decide +kernel), by decide +kernel, by decide +kernel, by decide +kernel, by decide +kernel⟩
theorem iv_X1_offerLeast : Cond.instanceMethod yX1_offerLeast ∈ zT ∧ Cond.selects yX1_offerLeast.cls yX1_offerLeast yX1_offerLeast ∈ zT := ⟨zT_in 762 (by decide +kernel) (by decide +kernel), zT_in 42 (by decide +kernel) (by decide +kernel)⟩
abbrev zm_X1_answer : ZM := (yX1_answer, cX1_answer, 2, (some .int), 0, 0, 0)
theorem ok_X1_answer : zOk zm_X1_answer 1 := ⟨zT_in 755 (by decide +kernel) (by decide +kernel), zT_in 92 (by decide +kernel) (by decide +kernel), by decide +kernel, by decide +kernel, by decide +kernel, by decide +kernel⟩
theorem iv_X1_answer : Cond.instanceMethod yX1_answer ∈ zT ∧ Cond.selects yX1_answer.cls yX1_answer yX1_answer ∈ zT := ⟨zT_in 754 (by decide +kernel) (by decide +kernel), zT_in 41 (by decide +kernel) (by decide +kernel)⟩
abbrev zm_X2_init : ZM := (yX2_init, cX2_init, 1, none, 1, 20, 0)
theorem ok_X2_init : zOk zm_X2_init 0 := ⟨zT_in 129 (by decide +kernel) (by decide +kernel), zT_in 83 (by decide +kernel) (by decide +kernel), by decide +kernel, by decide +kernel, by decide +kernel, by decide +kernel⟩
theorem ii_X2_init : Cond.instanceMethod yX2_init ∈ zT ∧ yX2_init.name = "<init>" ∧ (none : Option FieldType) = none := ⟨zT_in 128 (by decide +kernel) (by decide +kernel), rfl, rfl⟩
abbrev zm_X2_readInto : ZM := (yX2_readInto, cX2_readInto, 6, (some .int), 4, 91, 0)
theorem ok_X2_readInto : zOk zm_X2_readInto 2 := ⟨zT_in 457 (by decide +kernel) (by decide +kernel), zT_in 83 (by decide +kernel) (by decide +kernel), by decide +kernel, by decide +kernel, by decide +kernel, by decide +kernel⟩
theorem iv_X2_readInto : Cond.instanceMethod yX2_readInto ∈ zT ∧ Cond.selects yX2_readInto.cls yX2_readInto yX2_readInto ∈ zT := ⟨zT_in 456 (by decide +kernel) (by decide +kernel), zT_in 1 (by decide +kernel) (by decide +kernel)⟩
abbrev zm_X2_readNumbers : ZM := (yX2_readNumbers, cX2_readNumbers, 5, (some .boolean), 2, 45, 0)
theorem ok_X2_readNumbers : zOk zm_X2_readNumbers 2 := ⟨zT_in 476 (by decide +kernel) (by decide +kernel), zT_in 83 (by decide +kernel) (by decide +kernel), by decide +kernel, by decide +kernel, by decide +kernel, by decide +kernel⟩
theorem iv_X2_readNumbers : Cond.instanceMethod yX2_readNumbers ∈ zT ∧ Cond.selects yX2_readNumbers.cls yX2_readNumbers yX2_readNumbers ∈ zT := ⟨zT_in 475 (by decide +kernel) (by decide +kernel), zT_in 5 (by decide +kernel) (by decide +kernel)⟩
abbrev zm_X2_readNumber : ZM := (yX2_readNumber, cX2_readNumber, 5, (some .int), 1, 21, 0)
theorem ok_X2_readNumber : zOk zm_X2_readNumber 1 := ⟨zT_in 480 (by decide +kernel) (by decide +kernel), zT_in 83 (by decide +kernel) (by decide +kernel), by decide +kernel, by decide +kernel, by decide +kernel, by decide +kernel⟩
theorem iv_X2_readNumber : Cond.instanceMethod yX2_readNumber ∈ zT ∧ Cond.selects yX2_readNumber.cls yX2_readNumber yX2_readNumber ∈ zT := ⟨zT_in 479 (by decide +kernel) (by decide +kernel), zT_in 6 (by decide +kernel) (by decide +kernel)⟩
abbrev zm_X2_accept : ZM := (yX2_accept, cX2_accept, 3, (some .boolean), 3, 69, 0)
theorem ok_X2_accept : zOk zm_X2_accept 2 := ⟨zT_in 484 (by decide +kernel) (by decide +kernel), zT_in 83 (by decide +kernel) (by decide +kernel), by decide +kernel, by decide +kernel, by decide +kernel, by decide +kernel⟩
theorem iv_X2_accept : Cond.instanceMethod yX2_accept ∈ zT ∧ Cond.selects yX2_accept.cls yX2_accept yX2_accept ∈ zT := ⟨zT_in 483 (by decide +kernel) (by decide +kernel), zT_in 7 (by decide +kernel) (by decide +kernel)⟩
abbrev zm_X2_acceptCorners : ZM := (yX2_acceptCorners, cX2_acceptCorners, 2, (some .boolean), 0, 0, 0)
theorem ok_X2_acceptCorners : zOk zm_X2_acceptCorners 1 := ⟨zT_in 488 (by decide +kernel) (by decide +kernel), zT_in 83 (by decide +kernel) (by decide +kernel), by decide +kernel, by decide +kernel, by decide +kernel, by decide +kernel⟩
theorem iv_X2_acceptCorners : Cond.instanceMethod yX2_acceptCorners ∈ zT ∧ Cond.selects yX2_acceptCorners.cls yX2_acceptCorners yX2_acceptCorners ∈ zT := ⟨zT_in 487 (by decide +kernel) (by decide +kernel), zT_in 8 (by decide +kernel) (by decide +kernel)⟩
abbrev zm_X2_acceptStreet : ZM := (yX2_acceptStreet, cX2_acceptStreet, 6, (some .boolean), 1, 23, 0)
theorem ok_X2_acceptStreet : zOk zm_X2_acceptStreet 1 := ⟨zT_in 492 (by decide +kernel) (by decide +kernel), zT_in 83 (by decide +kernel) (by decide +kernel), by decide +kernel, by decide +kernel, by decide +kernel, by decide +kernel⟩
theorem iv_X2_acceptStreet : Cond.instanceMethod yX2_acceptStreet ∈ zT ∧ Cond.selects yX2_acceptStreet.cls yX2_acceptStreet yX2_acceptStreet ∈ zT := ⟨zT_in 491 (by decide +kernel) (by decide +kernel), zT_in 9 (by decide +kernel) (by decide +kernel)⟩
abbrev zm_X2_acceptSign : ZM := (yX2_acceptSign, cX2_acceptSign, 3, (some .boolean), 2, 47, 0)
theorem ok_X2_acceptSign : zOk zm_X2_acceptSign 1 := ⟨zT_in 503 (by decide +kernel) (by decide +kernel), zT_in 83 (by decide +kernel) (by decide +kernel), by decide +kernel, by decide +kernel, by decide +kernel, by decide +kernel⟩
theorem iv_X2_acceptSign : Cond.instanceMethod yX2_acceptSign ∈ zT ∧ Cond.selects yX2_acceptSign.cls yX2_acceptSign yX2_acceptSign ∈ zT := ⟨zT_in 502 (by decide +kernel) (by decide +kernel), zT_in 11 (by decide +kernel) (by decide +kernel)⟩
abbrev zm_X2_acceptWalker : ZM := (yX2_acceptWalker, cX2_acceptWalker, 3, (some .boolean), 1, 23, 0)
theorem ok_X2_acceptWalker : zOk zm_X2_acceptWalker 1 := ⟨zT_in 515 (by decide +kernel) (by decide +kernel), zT_in 83 (by decide +kernel) (by decide +kernel), by decide +kernel, by decide +kernel, by decide +kernel, by decide +kernel⟩
theorem iv_X2_acceptWalker : Cond.instanceMethod yX2_acceptWalker ∈ zT ∧ Cond.selects yX2_acceptWalker.cls yX2_acceptWalker yX2_acceptWalker ∈ zT := ⟨zT_in 514 (by decide +kernel) (by decide +kernel), zT_in 14 (by decide +kernel) (by decide +kernel)⟩
abbrev zm_X2_acceptRates : ZM := (yX2_acceptRates, cX2_acceptRates, 2, (some .boolean), 1, 21, 0)
theorem ok_X2_acceptRates : zOk zm_X2_acceptRates 1 := ⟨zT_in 523 (by decide +kernel) (by decide +kernel), zT_in 83 (by decide +kernel) (by decide +kernel), by decide +kernel, by decide +kernel, by decide +kernel, by decide +kernel⟩
theorem iv_X2_acceptRates : Cond.instanceMethod yX2_acceptRates ∈ zT ∧ Cond.selects yX2_acceptRates.cls yX2_acceptRates yX2_acceptRates ∈ zT := ⟨zT_in 522 (by decide +kernel) (by decide +kernel), zT_in 16 (by decide +kernel) (by decide +kernel)⟩
abbrev zm_X3_init : ZM := (yX3_init, cX3_init, 2, none, 2, 40, 0)
theorem ok_X3_init : zOk zm_X3_init 0 := ⟨zT_in 346 (by decide +kernel) (by decide +kernel), zT_in 90 (by decide +kernel) (by decide +kernel), by decide +kernel, by decide +kernel, by decide +kernel, by decide +kernel⟩
theorem ii_X3_init : Cond.instanceMethod yX3_init ∈ zT ∧ yX3_init.name = "<init>" ∧ (none : Option FieldType) = none := ⟨zT_in 345 (by decide +kernel) (by decide +kernel), rfl, rfl⟩
abbrev zm_X3_store : ZM := (yX3_store, cX3_store, 2, none, 2, 47, 0)
theorem ok_X3_store : zOk zm_X3_store 1 := ⟨zT_in 848 (by decide +kernel) (by decide +kernel), zT_in 90 (by decide +kernel) (by decide +kernel), by decide +kernel, by decide +kernel, by decide +kernel, by decide +kernel⟩
theorem iv_X3_store : Cond.instanceMethod yX3_store ∈ zT ∧ Cond.selects yX3_store.cls yX3_store yX3_store ∈ zT := ⟨zT_in 847 (by decide +kernel) (by decide +kernel), zT_in 49 (by decide +kernel) (by decide +kernel)⟩
abbrev zm_X3_restoreLast : ZM := (yX3_restoreLast, cX3_restoreLast, 2, none, 2, 47, 0)
theorem ok_X3_restoreLast : zOk zm_X3_restoreLast 1 := ⟨zT_in 858 (by decide +kernel) (by decide +kernel), zT_in 90 (by decide +kernel) (by decide +kernel), by decide +kernel, by decide +kernel, by decide +kernel, by decide +kernel⟩
theorem iv_X3_restoreLast : Cond.instanceMethod yX3_restoreLast ∈ zT ∧ Cond.selects yX3_restoreLast.cls yX3_restoreLast yX3_restoreLast ∈ zT := ⟨zT_in 857 (by decide +kernel) (by decide +kernel), zT_in 50 (by decide +kernel) (by decide +kernel)⟩
abbrev zm_X4_init : ZM := (yX4_init, cX4_init, 1, none, 1, 20, 0)
theorem ok_X4_init : zOk zm_X4_init 0 := ⟨zT_in 367 (by decide +kernel) (by decide +kernel), zT_in 91 (by decide +kernel) (by decide +kernel), by decide +kernel, by decide +kernel, by decide +kernel, by decide +kernel⟩
theorem ii_X4_init : Cond.instanceMethod yX4_init ∈ zT ∧ yX4_init.name = "<init>" ∧ (none : Option FieldType) = none := ⟨zT_in 366 (by decide +kernel) (by decide +kernel), rfl, rfl⟩
abbrev zm_X4_add : ZM := (yX4_add, cX4_add, 4, none, 0, 0, 0)
theorem ok_X4_add : zOk zm_X4_add 3 := ⟨zT_in 792 (by decide +kernel) (by decide +kernel), zT_in 91 (by decide +kernel) (by decide +kernel), by decide +kernel, by decide +kernel, by decide +kernel, by decide +kernel⟩
theorem iv_X4_add : Cond.instanceMethod yX4_add ∈ zT ∧ Cond.selects yX4_add.cls yX4_add yX4_add ∈ zT := ⟨zT_in 791 (by decide +kernel) (by decide +kernel), zT_in 45 (by decide +kernel) (by decide +kernel)⟩
abbrev zm_X4_fit : ZM := (yX4_fit, cX4_fit, 4, (some .boolean), 2, 42, 0)
theorem ok_X4_fit : zOk zm_X4_fit 2 := ⟨zT_in 804 (by decide +kernel) (by decide +kernel), zT_in 91 (by decide +kernel) (by decide +kernel), by decide +kernel, by decide +kernel, by decide +kernel, by decide +kernel⟩
theorem iv_X4_fit : Cond.instanceMethod yX4_fit ∈ zT ∧ Cond.selects yX4_fit.cls yX4_fit yX4_fit ∈ zT := ⟨zT_in 803 (by decide +kernel) (by decide +kernel), zT_in 46 (by decide +kernel) (by decide +kernel)⟩
abbrev zm_X5_init : ZM := (yX5_init, cX5_init, 1, none, 1, 20, 0)
theorem ok_X5_init : zOk zm_X5_init 0 := ⟨zT_in 187 (by decide +kernel) (by decide +kernel), zT_in 86 (by decide +kernel) (by decide +kernel), by decide +kernel, by decide +kernel, by decide +kernel, by decide +kernel⟩
theorem ii_X5_init : Cond.instanceMethod yX5_init ∈ zT ∧ yX5_init.name = "<init>" ∧ (none : Option FieldType) = none := ⟨zT_in 186 (by decide +kernel) (by decide +kernel), rfl, rfl⟩
abbrev zm_X5_insert : ZM := (yX5_insert, cX5_insert, 6, none, 1, 22, 0)
theorem ok_X5_insert : zOk zm_X5_insert 4 := ⟨zT_in 507 (by decide +kernel) (by decide +kernel), zT_in 86 (by decide +kernel) (by decide +kernel), by decide +kernel, by decide +kernel, by decide +kernel, by decide +kernel⟩
theorem iv_X5_insert : Cond.instanceMethod yX5_insert ∈ zT ∧ Cond.selects yX5_insert.cls yX5_insert yX5_insert ∈ zT := ⟨zT_in 506 (by decide +kernel) (by decide +kernel), zT_in 12 (by decide +kernel) (by decide +kernel)⟩
abbrev zm_X5_remove : ZM := (yX5_remove, cX5_remove, 3, none, 1, 22, 0)
theorem ok_X5_remove : zOk zm_X5_remove 1 := ⟨zT_in 705 (by decide +kernel) (by decide +kernel), zT_in 86 (by decide +kernel) (by decide +kernel), by decide +kernel, by decide +kernel, by decide +kernel, by decide +kernel⟩
theorem iv_X5_remove : Cond.instanceMethod yX5_remove ∈ zT ∧ Cond.selects yX5_remove.cls yX5_remove yX5_remove ∈ zT := ⟨zT_in 704 (by decide +kernel) (by decide +kernel), zT_in 34 (by decide +kernel) (by decide +kernel)⟩
abbrev zm_X5_move : ZM := (yX5_move, cX5_move, 3, none, 0, 0, 0)
theorem ok_X5_move : zOk zm_X5_move 2 := ⟨zT_in 511 (by decide +kernel) (by decide +kernel), zT_in 86 (by decide +kernel) (by decide +kernel), by decide +kernel, by decide +kernel, by decide +kernel, by decide +kernel⟩
theorem iv_X5_move : Cond.instanceMethod yX5_move ∈ zT ∧ Cond.selects yX5_move.cls yX5_move yX5_move ∈ zT := ⟨zT_in 510 (by decide +kernel) (by decide +kernel), zT_in 13 (by decide +kernel) (by decide +kernel)⟩
abbrev zm_X5_copyFrom : ZM := (yX5_copyFrom, cX5_copyFrom, 2, none, 1, 26, 0)
theorem ok_X5_copyFrom : zOk zm_X5_copyFrom 1 := ⟨zT_in 736 (by decide +kernel) (by decide +kernel), zT_in 86 (by decide +kernel) (by decide +kernel), by decide +kernel, by decide +kernel, by decide +kernel, by decide +kernel⟩
theorem iv_X5_copyFrom : Cond.instanceMethod yX5_copyFrom ∈ zT ∧ Cond.selects yX5_copyFrom.cls yX5_copyFrom yX5_copyFrom ∈ zT := ⟨zT_in 735 (by decide +kernel) (by decide +kernel), zT_in 37 (by decide +kernel) (by decide +kernel)⟩
abbrev zm_X5_latestFor : ZM := (yX5_latestFor, cX5_latestFor, 4, (some .int), 0, 0, 0)
theorem ok_X5_latestFor : zOk zm_X5_latestFor 2 := ⟨zT_in 646 (by decide +kernel) (by decide +kernel), zT_in 86 (by decide +kernel) (by decide +kernel), by decide +kernel, by decide +kernel, by decide +kernel, by decide +kernel⟩
theorem iv_X5_latestFor : Cond.instanceMethod yX5_latestFor ∈ zT ∧ Cond.selects yX5_latestFor.cls yX5_latestFor yX5_latestFor ∈ zT := ⟨zT_in 645 (by decide +kernel) (by decide +kernel), zT_in 27 (by decide +kernel) (by decide +kernel)⟩
abbrev zm_X6_init : ZM := (yX6_init, cX6_init, 1, none, 1, 20, 0)
theorem ok_X6_init : zOk zm_X6_init 0 := ⟨zT_in 152 (by decide +kernel) (by decide +kernel), zT_in 85 (by decide +kernel) (by decide +kernel), by decide +kernel, by decide +kernel, by decide +kernel, by decide +kernel⟩
theorem ii_X6_init : Cond.instanceMethod yX6_init ∈ zT ∧ yX6_init.name = "<init>" ∧ (none : Option FieldType) = none := ⟨zT_in 151 (by decide +kernel) (by decide +kernel), rfl, rfl⟩
abbrev zm_X6_clear : ZM := (yX6_clear, cX6_clear, 2, none, 1, 23, 0)
theorem ok_X6_clear : zOk zm_X6_clear 0 := ⟨zT_in 465 (by decide +kernel) (by decide +kernel), zT_in 85 (by decide +kernel) (by decide +kernel), by decide +kernel, by decide +kernel, by decide +kernel, by decide +kernel⟩
theorem iv_X6_clear : Cond.instanceMethod yX6_clear ∈ zT ∧ Cond.selects yX6_clear.cls yX6_clear yX6_clear ∈ zT := ⟨zT_in 464 (by decide +kernel) (by decide +kernel), zT_in 3 (by decide +kernel) (by decide +kernel)⟩
abbrev zm_X6_add : ZM := (yX6_add, cX6_add, 4, none, 0, 0, 0)
theorem ok_X6_add : zOk zm_X6_add 3 := ⟨zT_in 499 (by decide +kernel) (by decide +kernel), zT_in 85 (by decide +kernel) (by decide +kernel), by decide +kernel, by decide +kernel, by decide +kernel, by decide +kernel⟩
theorem iv_X6_add : Cond.instanceMethod yX6_add ∈ zT ∧ Cond.selects yX6_add.cls yX6_add yX6_add ∈ zT := ⟨zT_in 498 (by decide +kernel) (by decide +kernel), zT_in 10 (by decide +kernel) (by decide +kernel)⟩
abbrev zm_X6_measure : ZM := (yX6_measure, cX6_measure, 6, none, 1, 26, 0)
theorem ok_X6_measure : zOk zm_X6_measure 2 := ⟨zT_in 527 (by decide +kernel) (by decide +kernel), zT_in 85 (by decide +kernel) (by decide +kernel), by decide +kernel, by decide +kernel, by decide +kernel, by decide +kernel⟩
theorem iv_X6_measure : Cond.instanceMethod yX6_measure ∈ zT ∧ Cond.selects yX6_measure.cls yX6_measure yX6_measure ∈ zT := ⟨zT_in 526 (by decide +kernel) (by decide +kernel), zT_in 17 (by decide +kernel) (by decide +kernel)⟩
abbrev zm_X6_shortenBy : ZM := (yX6_shortenBy, cX6_shortenBy, 7, none, 0, 0, 0)
theorem ok_X6_shortenBy : zOk zm_X6_shortenBy 2 := ⟨zT_in 531 (by decide +kernel) (by decide +kernel), zT_in 85 (by decide +kernel) (by decide +kernel), by decide +kernel, by decide +kernel, by decide +kernel, by decide +kernel⟩
theorem iv_X6_shortenBy : Cond.instanceMethod yX6_shortenBy ∈ zT ∧ Cond.selects yX6_shortenBy.cls yX6_shortenBy yX6_shortenBy ∈ zT := ⟨zT_in 530 (by decide +kernel) (by decide +kernel), zT_in 18 (by decide +kernel) (by decide +kernel)⟩
abbrev zm_X6_leadsOn : ZM := (yX6_leadsOn, cX6_leadsOn, 6, (some .boolean), 0, 0, 0)
theorem ok_X6_leadsOn : zOk zm_X6_leadsOn 3 := ⟨zT_in 642 (by decide +kernel) (by decide +kernel), zT_in 85 (by decide +kernel) (by decide +kernel), by decide +kernel, by decide +kernel, by decide +kernel, by decide +kernel⟩
theorem iv_X6_leadsOn : Cond.instanceMethod yX6_leadsOn ∈ zT ∧ Cond.selects yX6_leadsOn.cls yX6_leadsOn yX6_leadsOn ∈ zT := ⟨zT_in 641 (by decide +kernel) (by decide +kernel), zT_in 26 (by decide +kernel) (by decide +kernel)⟩
abbrev zm_X6_towards : ZM := (yX6_towards, cX6_towards, 4, (some .int), 1, 25, 0)
theorem ok_X6_towards : zOk zm_X6_towards 2 := ⟨zT_in 638 (by decide +kernel) (by decide +kernel), zT_in 85 (by decide +kernel) (by decide +kernel), by decide +kernel, by decide +kernel, by decide +kernel, by decide +kernel⟩
theorem iv_X6_towards : Cond.instanceMethod yX6_towards ∈ zT ∧ Cond.selects yX6_towards.cls yX6_towards yX6_towards ∈ zT := ⟨zT_in 637 (by decide +kernel) (by decide +kernel), zT_in 25 (by decide +kernel) (by decide +kernel)⟩
abbrev zm_X6_firstBut : ZM := (yX6_firstBut, cX6_firstBut, 4, (some .int), 0, 0, 0)
theorem ok_X6_firstBut : zOk zm_X6_firstBut 2 := ⟨zT_in 653 (by decide +kernel) (by decide +kernel), zT_in 85 (by decide +kernel) (by decide +kernel), by decide +kernel, by decide +kernel, by decide +kernel, by decide +kernel⟩
theorem iv_X6_firstBut : Cond.instanceMethod yX6_firstBut ∈ zT ∧ Cond.selects yX6_firstBut.cls yX6_firstBut yX6_firstBut ∈ zT := ⟨zT_in 652 (by decide +kernel) (by decide +kernel), zT_in 28 (by decide +kernel) (by decide +kernel)⟩
abbrev zm_X6_lastBut : ZM := (yX6_lastBut, cX6_lastBut, 4, (some .int), 0, 0, 0)
theorem ok_X6_lastBut : zOk zm_X6_lastBut 2 := ⟨zT_in 657 (by decide +kernel) (by decide +kernel), zT_in 85 (by decide +kernel) (by decide +kernel), by decide +kernel, by decide +kernel, by decide +kernel, by decide +kernel⟩
theorem iv_X6_lastBut : Cond.instanceMethod yX6_lastBut ∈ zT ∧ Cond.selects yX6_lastBut.cls yX6_lastBut yX6_lastBut ∈ zT := ⟨zT_in 656 (by decide +kernel) (by decide +kernel), zT_in 29 (by decide +kernel) (by decide +kernel)⟩
abbrev zm_X7_init : ZM := (yX7_init, cX7_init, 1, none, 1, 20, 0)
theorem ok_X7_init : zOk zm_X7_init 0 := ⟨zT_in 113 (by decide +kernel) (by decide +kernel), zT_in 82 (by decide +kernel) (by decide +kernel), by decide +kernel, by decide +kernel, by decide +kernel, by decide +kernel⟩
theorem ii_X7_init : Cond.instanceMethod yX7_init ∈ zT ∧ yX7_init.name = "<init>" ∧ (none : Option FieldType) = none := ⟨zT_in 112 (by decide +kernel) (by decide +kernel), rfl, rfl⟩
abbrev zm_X7_append : ZM := (yX7_append, cX7_append, 2, none, 0, 0, 0)
theorem ok_X7_append : zOk zm_X7_append 1 := ⟨zT_in 449 (by decide +kernel) (by decide +kernel), zT_in 82 (by decide +kernel) (by decide +kernel), by decide +kernel, by decide +kernel, by decide +kernel, by decide +kernel⟩
theorem iv_X7_append : Cond.instanceMethod yX7_append ∈ zT ∧ Cond.selects yX7_append.cls yX7_append yX7_append ∈ zT := ⟨zT_in 448 (by decide +kernel) (by decide +kernel), zT_in 0 (by decide +kernel) (by decide +kernel)⟩
abbrev zm_X7_letterAt : ZM := (yX7_letterAt, cX7_letterAt, 2, (some .int), 0, 0, 0)
theorem ok_X7_letterAt : zOk zm_X7_letterAt 1 := ⟨zT_in 472 (by decide +kernel) (by decide +kernel), zT_in 82 (by decide +kernel) (by decide +kernel), by decide +kernel, by decide +kernel, by decide +kernel, by decide +kernel⟩
theorem iv_X7_letterAt : Cond.instanceMethod yX7_letterAt ∈ zT ∧ Cond.selects yX7_letterAt.cls yX7_letterAt yX7_letterAt ∈ zT := ⟨zT_in 471 (by decide +kernel) (by decide +kernel), zT_in 4 (by decide +kernel) (by decide +kernel)⟩
abbrev zm_X8_init : ZM := (yX8_init, cX8_init, 1, none, 2, 40, 0)
theorem ok_X8_init : zOk zm_X8_init 0 := ⟨zT_in 146 (by decide +kernel) (by decide +kernel), zT_in 84 (by decide +kernel) (by decide +kernel), by decide +kernel, by decide +kernel, by decide +kernel, by decide +kernel⟩
theorem ii_X8_init : Cond.instanceMethod yX8_init ∈ zT ∧ yX8_init.name = "<init>" ∧ (none : Option FieldType) = none := ⟨zT_in 145 (by decide +kernel) (by decide +kernel), rfl, rfl⟩
abbrev zm_X8_clear : ZM := (yX8_clear, cX8_clear, 1, none, 2, 44, 0)
theorem ok_X8_clear : zOk zm_X8_clear 0 := ⟨zT_in 461 (by decide +kernel) (by decide +kernel), zT_in 84 (by decide +kernel) (by decide +kernel), by decide +kernel, by decide +kernel, by decide +kernel, by decide +kernel⟩
theorem iv_X8_clear : Cond.instanceMethod yX8_clear ∈ zT ∧ Cond.selects yX8_clear.cls yX8_clear yX8_clear ∈ zT := ⟨zT_in 460 (by decide +kernel) (by decide +kernel), zT_in 2 (by decide +kernel) (by decide +kernel)⟩
abbrev zm_X8_minutesToAims : ZM := (yX8_minutesToAims, cX8_minutesToAims, 5, (some .int), 0, 0, 0)
theorem ok_X8_minutesToAims : zOk zm_X8_minutesToAims 1 := ⟨zT_in 784 (by decide +kernel) (by decide +kernel), zT_in 84 (by decide +kernel) (by decide +kernel), by decide +kernel, by decide +kernel, by decide +kernel, by decide +kernel⟩
theorem iv_X8_minutesToAims : Cond.instanceMethod yX8_minutesToAims ∈ zT ∧ Cond.selects yX8_minutesToAims.cls yX8_minutesToAims yX8_minutesToAims ∈ zT := ⟨zT_in 783 (by decide +kernel) (by decide +kernel), zT_in 44 (by decide +kernel) (by decide +kernel)⟩
abbrev zm_X9_init : ZM := (yX9_init, cX9_init, 1, none, 1, 20, 0)
theorem ok_X9_init : zOk zm_X9_init 0 := ⟨zT_in 281 (by decide +kernel) (by decide +kernel), zT_in 88 (by decide +kernel) (by decide +kernel), by decide +kernel, by decide +kernel, by decide +kernel, by decide +kernel⟩
theorem ii_X9_init : Cond.instanceMethod yX9_init ∈ zT ∧ yX9_init.name = "<init>" ∧ (none : Option FieldType) = none := ⟨zT_in 280 (by decide +kernel) (by decide +kernel), rfl, rfl⟩
abbrev zm_X9_make : ZM := (yX9_make, cX9_make, 11, none, 3, 73, 0)
theorem ok_X9_make : zOk zm_X9_make 6 := ⟨zT_in 631 (by decide +kernel) (by decide +kernel), zT_in 88 (by decide +kernel) (by decide +kernel), by decide +kernel, by decide +kernel, by decide +kernel, by decide +kernel⟩
theorem iv_X9_make : Cond.instanceMethod yX9_make ∈ zT ∧ Cond.selects yX9_make.cls yX9_make yX9_make ∈ zT := ⟨zT_in 630 (by decide +kernel) (by decide +kernel), zT_in 24 (by decide +kernel) (by decide +kernel)⟩
abbrev zm_X9_choose : ZM := (yX9_choose, cX9_choose, 6, (some .int), 2, 48, 0)
theorem ok_X9_choose : zOk zm_X9_choose 6 := ⟨zT_in 634 (by decide +kernel) (by decide +kernel), zT_in 88 (by decide +kernel) (by decide +kernel), by decide +kernel, by decide +kernel, by decide +kernel, by decide +kernel⟩
theorem is_X9_choose : Cond.static yX9_choose ∈ zT := zT_in 633 (by decide +kernel) (by decide +kernel)
abbrev zm_X9_chooseBySign : ZM := (yX9_chooseBySign, cX9_chooseBySign, 5, (some .int), 1, 23, 0)
theorem ok_X9_chooseBySign : zOk zm_X9_chooseBySign 4 := ⟨zT_in 649 (by decide +kernel) (by decide +kernel), zT_in 88 (by decide +kernel) (by decide +kernel), by decide +kernel, by decide +kernel, by decide +kernel, by decide +kernel⟩
theorem is_X9_chooseBySign : Cond.static yX9_chooseBySign ∈ zT := zT_in 648 (by decide +kernel) (by decide +kernel)
abbrev zm_X9_placeBehind : ZM := (yX9_placeBehind, cX9_placeBehind, 2, (some .int), 1, 21, 0)
theorem ok_X9_placeBehind : zOk zm_X9_placeBehind 1 := ⟨zT_in 662 (by decide +kernel) (by decide +kernel), zT_in 88 (by decide +kernel) (by decide +kernel), by decide +kernel, by decide +kernel, by decide +kernel, by decide +kernel⟩
theorem iv_X9_placeBehind : Cond.instanceMethod yX9_placeBehind ∈ zT ∧ Cond.selects yX9_placeBehind.cls yX9_placeBehind yX9_placeBehind ∈ zT := ⟨zT_in 661 (by decide +kernel) (by decide +kernel), zT_in 30 (by decide +kernel) (by decide +kernel)⟩
abbrev zm_X9_firstRepeat : ZM := (yX9_firstRepeat, cX9_firstRepeat, 3, (some .int), 0, 0, 0)
theorem ok_X9_firstRepeat : zOk zm_X9_firstRepeat 0 := ⟨zT_in 680 (by decide +kernel) (by decide +kernel), zT_in 88 (by decide +kernel) (by decide +kernel), by decide +kernel, by decide +kernel, by decide +kernel, by decide +kernel⟩
theorem iv_X9_firstRepeat : Cond.instanceMethod yX9_firstRepeat ∈ zT ∧ Cond.selects yX9_firstRepeat.cls yX9_firstRepeat yX9_firstRepeat ∈ zT := ⟨zT_in 679 (by decide +kernel) (by decide +kernel), zT_in 31 (by decide +kernel) (by decide +kernel)⟩
abbrev zm_X9_tallyWrong : ZM := (yX9_tallyWrong, cX9_tallyWrong, 3, none, 0, 0, 0)
theorem ok_X9_tallyWrong : zOk zm_X9_tallyWrong 1 := ⟨zT_in 776 (by decide +kernel) (by decide +kernel), zT_in 88 (by decide +kernel) (by decide +kernel), by decide +kernel, by decide +kernel, by decide +kernel, by decide +kernel⟩
theorem iv_X9_tallyWrong : Cond.instanceMethod yX9_tallyWrong ∈ zT ∧ Cond.selects yX9_tallyWrong.cls yX9_tallyWrong yX9_tallyWrong ∈ zT := ⟨zT_in 775 (by decide +kernel) (by decide +kernel), zT_in 43 (by decide +kernel) (by decide +kernel)⟩
abbrev zm_X10_init : ZM := (yX10_init, cX10_init, 1, none, 1, 20, 0)
theorem ok_X10_init : zOk zm_X10_init 0 := ⟨zT_in 212 (by decide +kernel) (by decide +kernel), zT_in 87 (by decide +kernel) (by decide +kernel), by decide +kernel, by decide +kernel, by decide +kernel, by decide +kernel⟩
theorem ii_X10_init : Cond.instanceMethod yX10_init ∈ zT ∧ yX10_init.name = "<init>" ∧ (none : Option FieldType) = none := ⟨zT_in 211 (by decide +kernel) (by decide +kernel), rfl, rfl⟩
abbrev zm_X10_add : ZM := (yX10_add, cX10_add, 4, none, 0, 0, 0)
theorem ok_X10_add : zOk zm_X10_add 3 := ⟨zT_in 519 (by decide +kernel) (by decide +kernel), zT_in 87 (by decide +kernel) (by decide +kernel), by decide +kernel, by decide +kernel, by decide +kernel, by decide +kernel⟩
theorem iv_X10_add : Cond.instanceMethod yX10_add ∈ zT ∧ Cond.selects yX10_add.cls yX10_add yX10_add ∈ zT := ⟨zT_in 518 (by decide +kernel) (by decide +kernel), zT_in 15 (by decide +kernel) (by decide +kernel)⟩
abbrev zm_X10_anyStrangerTo : ZM := (yX10_anyStrangerTo, cX10_anyStrangerTo, 3, (some .boolean), 0, 0, 0)
theorem ok_X10_anyStrangerTo : zOk zm_X10_anyStrangerTo 1 := ⟨zT_in 743 (by decide +kernel) (by decide +kernel), zT_in 87 (by decide +kernel) (by decide +kernel), by decide +kernel, by decide +kernel, by decide +kernel, by decide +kernel⟩
theorem iv_X10_anyStrangerTo : Cond.instanceMethod yX10_anyStrangerTo ∈ zT ∧ Cond.selects yX10_anyStrangerTo.cls yX10_anyStrangerTo yX10_anyStrangerTo ∈ zT := ⟨zT_in 742 (by decide +kernel) (by decide +kernel), zT_in 38 (by decide +kernel) (by decide +kernel)⟩
abbrev zm_X11_init : ZM := (yX11_init, cX11_init, 2, none, 6, 137, 0)
theorem ok_X11_init : zOk zm_X11_init 0 := ⟨zT_in 105 (by decide +kernel) (by decide +kernel), zT_in 81 (by decide +kernel) (by decide +kernel), by decide +kernel, by decide +kernel, by decide +kernel, by decide +kernel⟩
theorem ii_X11_init : Cond.instanceMethod yX11_init ∈ zT ∧ yX11_init.name = "<init>" ∧ (none : Option FieldType) = none := ⟨zT_in 104 (by decide +kernel) (by decide +kernel), rfl, rfl⟩
abbrev zm_X11_write : ZM := (yX11_write, cX11_write, 2, (some .int), 1, 21, 0)
theorem ok_X11_write : zOk zm_X11_write 1 := ⟨zT_in 584 (by decide +kernel) (by decide +kernel), zT_in 81 (by decide +kernel) (by decide +kernel), by decide +kernel, by decide +kernel, by decide +kernel, by decide +kernel⟩
theorem iv_X11_write : Cond.instanceMethod yX11_write ∈ zT ∧ Cond.selects yX11_write.cls yX11_write yX11_write ∈ zT := ⟨zT_in 582 (by decide +kernel) (by decide +kernel), zT_in 583 (by decide +kernel) (by decide +kernel)⟩
abbrev zm_X11_wipe : ZM := (yX11_wipe, cX11_wipe, 2, (some .int), 0, 0, 0)
theorem ok_X11_wipe : zOk zm_X11_wipe 0 := ⟨zT_in 539 (by decide +kernel) (by decide +kernel), zT_in 81 (by decide +kernel) (by decide +kernel), by decide +kernel, by decide +kernel, by decide +kernel, by decide +kernel⟩
theorem iv_X11_wipe : Cond.instanceMethod yX11_wipe ∈ zT ∧ Cond.selects yX11_wipe.cls yX11_wipe yX11_wipe ∈ zT := ⟨zT_in 537 (by decide +kernel) (by decide +kernel), zT_in 538 (by decide +kernel) (by decide +kernel)⟩
abbrev zm_X11_fault : ZM := (yX11_fault, cX11_fault, 1, (some .int), 5, 116, 0)
theorem ok_X11_fault : zOk zm_X11_fault 0 := ⟨zT_in 589 (by decide +kernel) (by decide +kernel), zT_in 81 (by decide +kernel) (by decide +kernel), by decide +kernel, by decide +kernel, by decide +kernel, by decide +kernel⟩
theorem iv_X11_fault : Cond.instanceMethod yX11_fault ∈ zT ∧ Cond.selects yX11_fault.cls yX11_fault yX11_fault ∈ zT := ⟨zT_in 587 (by decide +kernel) (by decide +kernel), zT_in 588 (by decide +kernel) (by decide +kernel)⟩
abbrev zm_X11_lay : ZM := (yX11_lay, cX11_lay, 2, (some .int), 5, 116, 0)
theorem ok_X11_lay : zOk zm_X11_lay 0 := ⟨zT_in 453 (by decide +kernel) (by decide +kernel), zT_in 81 (by decide +kernel) (by decide +kernel), by decide +kernel, by decide +kernel, by decide +kernel, by decide +kernel⟩
theorem iv_X11_lay : Cond.instanceMethod yX11_lay ∈ zT ∧ Cond.selects yX11_lay.cls yX11_lay yX11_lay ∈ zT := ⟨zT_in 451 (by decide +kernel) (by decide +kernel), zT_in 452 (by decide +kernel) (by decide +kernel)⟩
abbrev zm_X11_far : ZM := (yX11_far, cX11_far, 3, (some .int), 2, 42, 0)
theorem ok_X11_far : zOk zm_X11_far 2 := ⟨zT_in 594 (by decide +kernel) (by decide +kernel), zT_in 81 (by decide +kernel) (by decide +kernel), by decide +kernel, by decide +kernel, by decide +kernel, by decide +kernel⟩
theorem iv_X11_far : Cond.instanceMethod yX11_far ∈ zT ∧ Cond.selects yX11_far.cls yX11_far yX11_far ∈ zT := ⟨zT_in 592 (by decide +kernel) (by decide +kernel), zT_in 593 (by decide +kernel) (by decide +kernel)⟩
abbrev zm_X11_street : ZM := (yX11_street, cX11_street, 4, (some .int), 2, 42, 0)
theorem ok_X11_street : zOk zm_X11_street 2 := ⟨zT_in 603 (by decide +kernel) (by decide +kernel), zT_in 81 (by decide +kernel) (by decide +kernel), by decide +kernel, by decide +kernel, by decide +kernel, by decide +kernel⟩
theorem iv_X11_street : Cond.instanceMethod yX11_street ∈ zT ∧ Cond.selects yX11_street.cls yX11_street yX11_street ∈ zT := ⟨zT_in 601 (by decide +kernel) (by decide +kernel), zT_in 602 (by decide +kernel) (by decide +kernel)⟩
abbrev zm_X11_sign : ZM := (yX11_sign, cX11_sign, 3, (some .int), 2, 42, 0)
theorem ok_X11_sign : zOk zm_X11_sign 2 := ⟨zT_in 607 (by decide +kernel) (by decide +kernel), zT_in 81 (by decide +kernel) (by decide +kernel), by decide +kernel, by decide +kernel, by decide +kernel, by decide +kernel⟩
theorem iv_X11_sign : Cond.instanceMethod yX11_sign ∈ zT ∧ Cond.selects yX11_sign.cls yX11_sign yX11_sign ∈ zT := ⟨zT_in 605 (by decide +kernel) (by decide +kernel), zT_in 606 (by decide +kernel) (by decide +kernel)⟩
abbrev zm_X11_walker : ZM := (yX11_walker, cX11_walker, 3, (some .int), 2, 42, 0)
theorem ok_X11_walker : zOk zm_X11_walker 2 := ⟨zT_in 615 (by decide +kernel) (by decide +kernel), zT_in 81 (by decide +kernel) (by decide +kernel), by decide +kernel, by decide +kernel, by decide +kernel, by decide +kernel⟩
theorem iv_X11_walker : Cond.instanceMethod yX11_walker ∈ zT ∧ Cond.selects yX11_walker.cls yX11_walker yX11_walker ∈ zT := ⟨zT_in 613 (by decide +kernel) (by decide +kernel), zT_in 614 (by decide +kernel) (by decide +kernel)⟩
abbrev zm_X11_walk : ZM := (yX11_walk, cX11_walk, 3, (some .int), 5, 125, 0)
theorem ok_X11_walk : zOk zm_X11_walk 2 := ⟨zT_in 623 (by decide +kernel) (by decide +kernel), zT_in 81 (by decide +kernel) (by decide +kernel), by decide +kernel, by decide +kernel, by decide +kernel, by decide +kernel⟩
theorem iv_X11_walk : Cond.instanceMethod yX11_walk ∈ zT ∧ Cond.selects yX11_walk.cls yX11_walk yX11_walk ∈ zT := ⟨zT_in 621 (by decide +kernel) (by decide +kernel), zT_in 622 (by decide +kernel) (by decide +kernel)⟩
abbrev zm_X11_way : ZM := (yX11_way, cX11_way, 3, (some .int), 5, 125, 0)
theorem ok_X11_way : zOk zm_X11_way 2 := ⟨zT_in 672 (by decide +kernel) (by decide +kernel), zT_in 81 (by decide +kernel) (by decide +kernel), by decide +kernel, by decide +kernel, by decide +kernel, by decide +kernel⟩
theorem iv_X11_way : Cond.instanceMethod yX11_way ∈ zT ∧ Cond.selects yX11_way.cls yX11_way yX11_way ∈ zT := ⟨zT_in 670 (by decide +kernel) (by decide +kernel), zT_in 671 (by decide +kernel) (by decide +kernel)⟩
abbrev zm_X11_round : ZM := (yX11_round, cX11_round, 2, (some .int), 5, 125, 0)
theorem ok_X11_round : zOk zm_X11_round 1 := ⟨zT_in 676 (by decide +kernel) (by decide +kernel), zT_in 81 (by decide +kernel) (by decide +kernel), by decide +kernel, by decide +kernel, by decide +kernel, by decide +kernel⟩
theorem iv_X11_round : Cond.instanceMethod yX11_round ∈ zT ∧ Cond.selects yX11_round.cls yX11_round yX11_round ∈ zT := ⟨zT_in 674 (by decide +kernel) (by decide +kernel), zT_in 675 (by decide +kernel) (by decide +kernel)⟩
abbrev zm_X11_tax : ZM := (yX11_tax, cX11_tax, 1, (some .int), 5, 127, 0)
theorem ok_X11_tax : zOk zm_X11_tax 0 := ⟨zT_in 684 (by decide +kernel) (by decide +kernel), zT_in 81 (by decide +kernel) (by decide +kernel), by decide +kernel, by decide +kernel, by decide +kernel, by decide +kernel⟩
theorem iv_X11_tax : Cond.instanceMethod yX11_tax ∈ zT ∧ Cond.selects yX11_tax.cls yX11_tax yX11_tax ∈ zT := ⟨zT_in 682 (by decide +kernel) (by decide +kernel), zT_in 683 (by decide +kernel) (by decide +kernel)⟩
abbrev zm_X11_put : ZM := (yX11_put, cX11_put, 4, (some .int), 2, 47, 0)
theorem ok_X11_put : zOk zm_X11_put 3 := ⟨zT_in 692 (by decide +kernel) (by decide +kernel), zT_in 81 (by decide +kernel) (by decide +kernel), by decide +kernel, by decide +kernel, by decide +kernel, by decide +kernel⟩
theorem iv_X11_put : Cond.instanceMethod yX11_put ∈ zT ∧ Cond.selects yX11_put.cls yX11_put yX11_put ∈ zT := ⟨zT_in 690 (by decide +kernel) (by decide +kernel), zT_in 691 (by decide +kernel) (by decide +kernel)⟩
abbrev zm_X11_take : ZM := (yX11_take, cX11_take, 3, (some .int), 2, 44, 0)
theorem ok_X11_take : zOk zm_X11_take 1 := ⟨zT_in 701 (by decide +kernel) (by decide +kernel), zT_in 81 (by decide +kernel) (by decide +kernel), by decide +kernel, by decide +kernel, by decide +kernel, by decide +kernel⟩
theorem iv_X11_take : Cond.instanceMethod yX11_take ∈ zT ∧ Cond.selects yX11_take.cls yX11_take yX11_take ∈ zT := ⟨zT_in 699 (by decide +kernel) (by decide +kernel), zT_in 700 (by decide +kernel) (by decide +kernel)⟩
abbrev zm_X11_tell : ZM := (yX11_tell, cX11_tell, 4, (some .int), 2, 42, 0)
theorem ok_X11_tell : zOk zm_X11_tell 2 := ⟨zT_in 709 (by decide +kernel) (by decide +kernel), zT_in 81 (by decide +kernel) (by decide +kernel), by decide +kernel, by decide +kernel, by decide +kernel, by decide +kernel⟩
theorem iv_X11_tell : Cond.instanceMethod yX11_tell ∈ zT ∧ Cond.selects yX11_tell.cls yX11_tell yX11_tell ∈ zT := ⟨zT_in 707 (by decide +kernel) (by decide +kernel), zT_in 708 (by decide +kernel) (by decide +kernel)⟩
abbrev zm_X11_undo : ZM := (yX11_undo, cX11_undo, 1, (some .int), 3, 69, 0)
theorem ok_X11_undo : zOk zm_X11_undo 0 := ⟨zT_in 713 (by decide +kernel) (by decide +kernel), zT_in 81 (by decide +kernel) (by decide +kernel), by decide +kernel, by decide +kernel, by decide +kernel, by decide +kernel⟩
theorem iv_X11_undo : Cond.instanceMethod yX11_undo ∈ zT ∧ Cond.selects yX11_undo.cls yX11_undo yX11_undo ∈ zT := ⟨zT_in 711 (by decide +kernel) (by decide +kernel), zT_in 712 (by decide +kernel) (by decide +kernel)⟩
abbrev zm_X11_lies : ZM := (yX11_lies, cX11_lies, 4, (some .int), 1, 25, 0)
theorem ok_X11_lies : zOk zm_X11_lies 0 := ⟨zT_in 723 (by decide +kernel) (by decide +kernel), zT_in 81 (by decide +kernel) (by decide +kernel), by decide +kernel, by decide +kernel, by decide +kernel, by decide +kernel⟩
theorem iv_X11_lies : Cond.instanceMethod yX11_lies ∈ zT ∧ Cond.selects yX11_lies.cls yX11_lies yX11_lies ∈ zT := ⟨zT_in 721 (by decide +kernel) (by decide +kernel), zT_in 722 (by decide +kernel) (by decide +kernel)⟩
abbrev zm_X11_lure : ZM := (yX11_lure, cX11_lure, 5, (some .int), 6, 153, 0)
theorem ok_X11_lure : zOk zm_X11_lure 1 := ⟨zT_in 728 (by decide +kernel) (by decide +kernel), zT_in 81 (by decide +kernel) (by decide +kernel), by decide +kernel, by decide +kernel, by decide +kernel, by decide +kernel⟩
theorem iv_X11_lure : Cond.instanceMethod yX11_lure ∈ zT ∧ Cond.selects yX11_lure.cls yX11_lure yX11_lure ∈ zT := ⟨zT_in 726 (by decide +kernel) (by decide +kernel), zT_in 727 (by decide +kernel) (by decide +kernel)⟩
abbrev zm_X11_mend : ZM := (yX11_mend, cX11_mend, 3, (some .int), 5, 127, 0)
theorem ok_X11_mend : zOk zm_X11_mend 1 := ⟨zT_in 759 (by decide +kernel) (by decide +kernel), zT_in 81 (by decide +kernel) (by decide +kernel), by decide +kernel, by decide +kernel, by decide +kernel, by decide +kernel⟩
theorem iv_X11_mend : Cond.instanceMethod yX11_mend ∈ zT ∧ Cond.selects yX11_mend.cls yX11_mend yX11_mend ∈ zT := ⟨zT_in 757 (by decide +kernel) (by decide +kernel), zT_in 758 (by decide +kernel) (by decide +kernel)⟩
abbrev zm_X11_best : ZM := (yX11_best, cX11_best, 5, (some .int), 4, 103, 0)
theorem ok_X11_best : zOk zm_X11_best 2 := ⟨zT_in 767 (by decide +kernel) (by decide +kernel), zT_in 81 (by decide +kernel) (by decide +kernel), by decide +kernel, by decide +kernel, by decide +kernel, by decide +kernel⟩
theorem iv_X11_best : Cond.instanceMethod yX11_best ∈ zT ∧ Cond.selects yX11_best.cls yX11_best yX11_best ∈ zT := ⟨zT_in 765 (by decide +kernel) (by decide +kernel), zT_in 766 (by decide +kernel) (by decide +kernel)⟩
abbrev zm_X11_watch : ZM := (yX11_watch, cX11_watch, 3, (some .int), 5, 125, 0)
theorem ok_X11_watch : zOk zm_X11_watch 1 := ⟨zT_in 771 (by decide +kernel) (by decide +kernel), zT_in 81 (by decide +kernel) (by decide +kernel), by decide +kernel, by decide +kernel, by decide +kernel, by decide +kernel⟩
theorem iv_X11_watch : Cond.instanceMethod yX11_watch ∈ zT ∧ Cond.selects yX11_watch.cls yX11_watch yX11_watch ∈ zT := ⟨zT_in 769 (by decide +kernel) (by decide +kernel), zT_in 770 (by decide +kernel) (by decide +kernel)⟩
abbrev zm_X11_missed : ZM := (yX11_missed, cX11_missed, 4, (some .int), 2, 51, 0)
theorem ok_X11_missed : zOk zm_X11_missed 1 := ⟨zT_in 780 (by decide +kernel) (by decide +kernel), zT_in 81 (by decide +kernel) (by decide +kernel), by decide +kernel, by decide +kernel, by decide +kernel, by decide +kernel⟩
theorem iv_X11_missed : Cond.instanceMethod yX11_missed ∈ zT ∧ Cond.selects yX11_missed.cls yX11_missed yX11_missed ∈ zT := ⟨zT_in 778 (by decide +kernel) (by decide +kernel), zT_in 779 (by decide +kernel) (by decide +kernel)⟩
abbrev zm_X11_seen : ZM := (yX11_seen, cX11_seen, 4, (some .int), 2, 42, 0)
theorem ok_X11_seen : zOk zm_X11_seen 3 := ⟨zT_in 788 (by decide +kernel) (by decide +kernel), zT_in 81 (by decide +kernel) (by decide +kernel), by decide +kernel, by decide +kernel, by decide +kernel, by decide +kernel⟩
theorem iv_X11_seen : Cond.instanceMethod yX11_seen ∈ zT ∧ Cond.selects yX11_seen.cls yX11_seen yX11_seen ∈ zT := ⟨zT_in 786 (by decide +kernel) (by decide +kernel), zT_in 787 (by decide +kernel) (by decide +kernel)⟩
abbrev zm_X11_forget : ZM := (yX11_forget, cX11_forget, 2, (some .int), 0, 0, 0)
theorem ok_X11_forget : zOk zm_X11_forget 0 := ⟨zT_in 796 (by decide +kernel) (by decide +kernel), zT_in 81 (by decide +kernel) (by decide +kernel), by decide +kernel, by decide +kernel, by decide +kernel, by decide +kernel⟩
theorem iv_X11_forget : Cond.instanceMethod yX11_forget ∈ zT ∧ Cond.selects yX11_forget.cls yX11_forget yX11_forget ∈ zT := ⟨zT_in 794 (by decide +kernel) (by decide +kernel), zT_in 795 (by decide +kernel) (by decide +kernel)⟩
abbrev zm_X11_kinds : ZM := (yX11_kinds, cX11_kinds, 5, (some .int), 4, 103, 0)
theorem ok_X11_kinds : zOk zm_X11_kinds 1 := ⟨zT_in 800 (by decide +kernel) (by decide +kernel), zT_in 81 (by decide +kernel) (by decide +kernel), by decide +kernel, by decide +kernel, by decide +kernel, by decide +kernel⟩
theorem iv_X11_kinds : Cond.instanceMethod yX11_kinds ∈ zT ∧ Cond.selects yX11_kinds.cls yX11_kinds yX11_kinds ∈ zT := ⟨zT_in 798 (by decide +kernel) (by decide +kernel), zT_in 799 (by decide +kernel) (by decide +kernel)⟩
abbrev zm_X11_paid : ZM := (yX11_paid, cX11_paid, 7, (some .int), 5, 125, 0)
theorem ok_X11_paid : zOk zm_X11_paid 2 := ⟨zT_in 809 (by decide +kernel) (by decide +kernel), zT_in 81 (by decide +kernel) (by decide +kernel), by decide +kernel, by decide +kernel, by decide +kernel, by decide +kernel⟩
theorem iv_X11_paid : Cond.instanceMethod yX11_paid ∈ zT ∧ Cond.selects yX11_paid.cls yX11_paid yX11_paid ∈ zT := ⟨zT_in 807 (by decide +kernel) (by decide +kernel), zT_in 808 (by decide +kernel) (by decide +kernel)⟩
abbrev zm_X11_mean : ZM := (yX11_mean, cX11_mean, 9, (some .int), 5, 127, 0)
theorem ok_X11_mean : zOk zm_X11_mean 3 := ⟨zT_in 817 (by decide +kernel) (by decide +kernel), zT_in 81 (by decide +kernel) (by decide +kernel), by decide +kernel, by decide +kernel, by decide +kernel, by decide +kernel⟩
theorem iv_X11_mean : Cond.instanceMethod yX11_mean ∈ zT ∧ Cond.selects yX11_mean.cls yX11_mean yX11_mean ∈ zT := ⟨zT_in 815 (by decide +kernel) (by decide +kernel), zT_in 816 (by decide +kernel) (by decide +kernel)⟩
abbrev zm_X11_day : ZM := (yX11_day, cX11_day, 9, (some .int), 4, 103, 0)
theorem ok_X11_day : zOk zm_X11_day 2 := ⟨zT_in 834 (by decide +kernel) (by decide +kernel), zT_in 81 (by decide +kernel) (by decide +kernel), by decide +kernel, by decide +kernel, by decide +kernel, by decide +kernel⟩
theorem iv_X11_day : Cond.instanceMethod yX11_day ∈ zT ∧ Cond.selects yX11_day.cls yX11_day yX11_day ∈ zT := ⟨zT_in 832 (by decide +kernel) (by decide +kernel), zT_in 833 (by decide +kernel) (by decide +kernel)⟩
abbrev zm_X11_keep : ZM := (yX11_keep, cX11_keep, 1, (some .int), 3, 68, 0)
theorem ok_X11_keep : zOk zm_X11_keep 0 := ⟨zT_in 844 (by decide +kernel) (by decide +kernel), zT_in 81 (by decide +kernel) (by decide +kernel), by decide +kernel, by decide +kernel, by decide +kernel, by decide +kernel⟩
theorem iv_X11_keep : Cond.instanceMethod yX11_keep ∈ zT ∧ Cond.selects yX11_keep.cls yX11_keep yX11_keep ∈ zT := ⟨zT_in 842 (by decide +kernel) (by decide +kernel), zT_in 843 (by decide +kernel) (by decide +kernel)⟩
abbrev zm_X11_back : ZM := (yX11_back, cX11_back, 1, (some .int), 3, 68, 0)
theorem ok_X11_back : zOk zm_X11_back 0 := ⟨zT_in 854 (by decide +kernel) (by decide +kernel), zT_in 81 (by decide +kernel) (by decide +kernel), by decide +kernel, by decide +kernel, by decide +kernel, by decide +kernel⟩
theorem iv_X11_back : Cond.instanceMethod yX11_back ∈ zT ∧ Cond.selects yX11_back.cls yX11_back yX11_back ∈ zT := ⟨zT_in 852 (by decide +kernel) (by decide +kernel), zT_in 853 (by decide +kernel) (by decide +kernel)⟩
abbrev zm_X11_count : ZM := (yX11_count, cX11_count, 2, (some .int), 0, 0, 0)
theorem ok_X11_count : zOk zm_X11_count 1 := ⟨zT_in 862 (by decide +kernel) (by decide +kernel), zT_in 81 (by decide +kernel) (by decide +kernel), by decide +kernel, by decide +kernel, by decide +kernel, by decide +kernel⟩
theorem iv_X11_count : Cond.instanceMethod yX11_count ∈ zT ∧ Cond.selects yX11_count.cls yX11_count yX11_count ∈ zT := ⟨zT_in 860 (by decide +kernel) (by decide +kernel), zT_in 861 (by decide +kernel) (by decide +kernel)⟩
abbrev zm_X11_isWithin : ZM := (yX11_isWithin, cX11_isWithin, 2, (some .boolean), 0, 0, 0)
theorem ok_X11_isWithin : zOk zm_X11_isWithin 2 := ⟨zT_in 495 (by decide +kernel) (by decide +kernel), zT_in 81 (by decide +kernel) (by decide +kernel), by decide +kernel, by decide +kernel, by decide +kernel, by decide +kernel⟩
theorem is_X11_isWithin : Cond.static yX11_isWithin ∈ zT := zT_in 494 (by decide +kernel) (by decide +kernel)
abbrev zm_X11_isCorner : ZM := (yX11_isCorner, cX11_isCorner, 2, (some .boolean), 1, 21, 0)
theorem ok_X11_isCorner : zOk zm_X11_isCorner 1 := ⟨zT_in 598 (by decide +kernel) (by decide +kernel), zT_in 81 (by decide +kernel) (by decide +kernel), by decide +kernel, by decide +kernel, by decide +kernel, by decide +kernel⟩
theorem iv_X11_isCorner : Cond.instanceMethod yX11_isCorner ∈ zT ∧ Cond.selects yX11_isCorner.cls yX11_isCorner yX11_isCorner ∈ zT := ⟨zT_in 597 (by decide +kernel) (by decide +kernel), zT_in 20 (by decide +kernel) (by decide +kernel)⟩
abbrev zm_X11_isSign : ZM := (yX11_isSign, cX11_isSign, 2, (some .boolean), 1, 21, 0)
theorem ok_X11_isSign : zOk zm_X11_isSign 1 := ⟨zT_in 611 (by decide +kernel) (by decide +kernel), zT_in 81 (by decide +kernel) (by decide +kernel), by decide +kernel, by decide +kernel, by decide +kernel, by decide +kernel⟩
theorem iv_X11_isSign : Cond.instanceMethod yX11_isSign ∈ zT ∧ Cond.selects yX11_isSign.cls yX11_isSign yX11_isSign ∈ zT := ⟨zT_in 610 (by decide +kernel) (by decide +kernel), zT_in 21 (by decide +kernel) (by decide +kernel)⟩
abbrev zm_X11_isWalker : ZM := (yX11_isWalker, cX11_isWalker, 2, (some .boolean), 1, 21, 0)
theorem ok_X11_isWalker : zOk zm_X11_isWalker 1 := ⟨zT_in 619 (by decide +kernel) (by decide +kernel), zT_in 81 (by decide +kernel) (by decide +kernel), by decide +kernel, by decide +kernel, by decide +kernel, by decide +kernel⟩
theorem iv_X11_isWalker : Cond.instanceMethod yX11_isWalker ∈ zT ∧ Cond.selects yX11_isWalker.cls yX11_isWalker yX11_isWalker ∈ zT := ⟨zT_in 618 (by decide +kernel) (by decide +kernel), zT_in 22 (by decide +kernel) (by decide +kernel)⟩
abbrev zm_X11_send : ZM := (yX11_send, cX11_send, 3, none, 4, 103, 0)
theorem ok_X11_send : zOk zm_X11_send 1 := ⟨zT_in 627 (by decide +kernel) (by decide +kernel), zT_in 81 (by decide +kernel) (by decide +kernel), by decide +kernel, by decide +kernel, by decide +kernel, by decide +kernel⟩
theorem iv_X11_send : Cond.instanceMethod yX11_send ∈ zT ∧ Cond.selects yX11_send.cls yX11_send yX11_send ∈ zT := ⟨zT_in 626 (by decide +kernel) (by decide +kernel), zT_in 23 (by decide +kernel) (by decide +kernel)⟩
abbrev zm_X11_taxBy : ZM := (yX11_taxBy, cX11_taxBy, 5, (some .int), 4, 103, 0)
theorem ok_X11_taxBy : zOk zm_X11_taxBy 1 := ⟨zT_in 688 (by decide +kernel) (by decide +kernel), zT_in 81 (by decide +kernel) (by decide +kernel), by decide +kernel, by decide +kernel, by decide +kernel, by decide +kernel⟩
theorem iv_X11_taxBy : Cond.instanceMethod yX11_taxBy ∈ zT ∧ Cond.selects yX11_taxBy.cls yX11_taxBy yX11_taxBy ∈ zT := ⟨zT_in 687 (by decide +kernel) (by decide +kernel), zT_in 32 (by decide +kernel) (by decide +kernel)⟩
abbrev zm_X11_offerLures : ZM := (yX11_offerLures, cX11_offerLures, 7, none, 5, 127, 0)
theorem ok_X11_offerLures : zOk zm_X11_offerLures 3 := ⟨zT_in 747 (by decide +kernel) (by decide +kernel), zT_in 81 (by decide +kernel) (by decide +kernel), by decide +kernel, by decide +kernel, by decide +kernel, by decide +kernel⟩
theorem iv_X11_offerLures : Cond.instanceMethod yX11_offerLures ∈ zT ∧ Cond.selects yX11_offerLures.cls yX11_offerLures yX11_offerLures ∈ zT := ⟨zT_in 746 (by decide +kernel) (by decide +kernel), zT_in 39 (by decide +kernel) (by decide +kernel)⟩
abbrev zm_X11_taxOfSet : ZM := (yX11_taxOfSet, cX11_taxOfSet, 5, (some .int), 0, 0, 0)
theorem ok_X11_taxOfSet : zOk zm_X11_taxOfSet 2 := ⟨zT_in 813 (by decide +kernel) (by decide +kernel), zT_in 81 (by decide +kernel) (by decide +kernel), by decide +kernel, by decide +kernel, by decide +kernel, by decide +kernel⟩
theorem iv_X11_taxOfSet : Cond.instanceMethod yX11_taxOfSet ∈ zT ∧ Cond.selects yX11_taxOfSet.cls yX11_taxOfSet yX11_taxOfSet ∈ zT := ⟨zT_in 812 (by decide +kernel) (by decide +kernel), zT_in 47 (by decide +kernel) (by decide +kernel)⟩
abbrev zm_X11_weightOfTurned : ZM := (yX11_weightOfTurned, cX11_weightOfTurned, 5, (some .int), 0, 0, 0)
theorem ok_X11_weightOfTurned : zOk zm_X11_weightOfTurned 3 := ⟨zT_in 821 (by decide +kernel) (by decide +kernel), zT_in 81 (by decide +kernel) (by decide +kernel), by decide +kernel, by decide +kernel, by decide +kernel, by decide +kernel⟩
theorem is_X11_weightOfTurned : Cond.static yX11_weightOfTurned ∈ zT := zT_in 820 (by decide +kernel) (by decide +kernel)
abbrev zm_X11_turnSigns : ZM := (yX11_turnSigns, cX11_turnSigns, 4, none, 2, 47, 0)
theorem ok_X11_turnSigns : zOk zm_X11_turnSigns 2 := ⟨zT_in 825 (by decide +kernel) (by decide +kernel), zT_in 81 (by decide +kernel) (by decide +kernel), by decide +kernel, by decide +kernel, by decide +kernel, by decide +kernel⟩
theorem iv_X11_turnSigns : Cond.instanceMethod yX11_turnSigns ∈ zT ∧ Cond.selects yX11_turnSigns.cls yX11_turnSigns yX11_turnSigns ∈ zT := ⟨zT_in 824 (by decide +kernel) (by decide +kernel), zT_in 48 (by decide +kernel) (by decide +kernel)⟩
abbrev zm_X11_commonDivisor : ZM := (yX11_commonDivisor, cX11_commonDivisor, 6, (some .int), 1, 21, 0)
theorem ok_X11_commonDivisor : zOk zm_X11_commonDivisor 2 := ⟨zT_in 829 (by decide +kernel) (by decide +kernel), zT_in 81 (by decide +kernel) (by decide +kernel), by decide +kernel, by decide +kernel, by decide +kernel, by decide +kernel⟩
theorem is_X11_commonDivisor : Cond.static yX11_commonDivisor ∈ zT := zT_in 828 (by decide +kernel) (by decide +kernel)
abbrev zm_X11_drawOf : ZM := (yX11_drawOf, cX11_drawOf, 4, (some .int), 0, 0, 0)
theorem ok_X11_drawOf : zOk zm_X11_drawOf 2 := ⟨zT_in 837 (by decide +kernel) (by decide +kernel), zT_in 81 (by decide +kernel) (by decide +kernel), by decide +kernel, by decide +kernel, by decide +kernel, by decide +kernel⟩
theorem is_X11_drawOf : Cond.static yX11_drawOf ∈ zT := zT_in 836 (by decide +kernel) (by decide +kernel)
abbrev zm_X12_init : ZM := (yX12_init, cX12_init, 1, none, 2, 45, 0)
theorem ok_X12_init : zOk zm_X12_init 0 := ⟨zT_in 867 (by decide +kernel) (by decide +kernel), zT_in 98 (by decide +kernel) (by decide +kernel), by decide +kernel, by decide +kernel, by decide +kernel, by decide +kernel⟩
theorem ii_X12_init : Cond.instanceMethod yX12_init ∈ zT ∧ yX12_init.name = "<init>" ∧ (none : Option FieldType) = none := ⟨zT_in 866 (by decide +kernel) (by decide +kernel), rfl, rfl⟩
abbrev zm_X12_firstStreet : ZM := (yX12_firstStreet, cX12_firstStreet, 5, none, 0, 0, 0)
theorem ok_X12_firstStreet : zOk zm_X12_firstStreet 3 := ⟨zT_in 872 (by decide +kernel) (by decide +kernel), zT_in 98 (by decide +kernel) (by decide +kernel), by decide +kernel, by decide +kernel, by decide +kernel, by decide +kernel⟩
theorem iv_X12_firstStreet : Cond.instanceMethod yX12_firstStreet ∈ zT ∧ Cond.selects yX12_firstStreet.cls yX12_firstStreet yX12_firstStreet ∈ zT := ⟨zT_in 871 (by decide +kernel) (by decide +kernel), zT_in 51 (by decide +kernel) (by decide +kernel)⟩
abbrev zm_X12_firstSign : ZM := (yX12_firstSign, cX12_firstSign, 5, none, 0, 0, 0)
theorem ok_X12_firstSign : zOk zm_X12_firstSign 3 := ⟨zT_in 876 (by decide +kernel) (by decide +kernel), zT_in 98 (by decide +kernel) (by decide +kernel), by decide +kernel, by decide +kernel, by decide +kernel, by decide +kernel⟩
theorem iv_X12_firstSign : Cond.instanceMethod yX12_firstSign ∈ zT ∧ Cond.selects yX12_firstSign.cls yX12_firstSign yX12_firstSign ∈ zT := ⟨zT_in 875 (by decide +kernel) (by decide +kernel), zT_in 52 (by decide +kernel) (by decide +kernel)⟩
abbrev zm_X12_firstWalker : ZM := (yX12_firstWalker, cX12_firstWalker, 5, none, 0, 0, 0)
theorem ok_X12_firstWalker : zOk zm_X12_firstWalker 3 := ⟨zT_in 880 (by decide +kernel) (by decide +kernel), zT_in 98 (by decide +kernel) (by decide +kernel), by decide +kernel, by decide +kernel, by decide +kernel, by decide +kernel⟩
theorem iv_X12_firstWalker : Cond.instanceMethod yX12_firstWalker ∈ zT ∧ Cond.selects yX12_firstWalker.cls yX12_firstWalker yX12_firstWalker ∈ zT := ⟨zT_in 879 (by decide +kernel) (by decide +kernel), zT_in 53 (by decide +kernel) (by decide +kernel)⟩
abbrev zm_X12_firstRates : ZM := (yX12_firstRates, cX12_firstRates, 4, none, 0, 0, 0)
theorem ok_X12_firstRates : zOk zm_X12_firstRates 3 := ⟨zT_in 884 (by decide +kernel) (by decide +kernel), zT_in 98 (by decide +kernel) (by decide +kernel), by decide +kernel, by decide +kernel, by decide +kernel, by decide +kernel⟩
theorem iv_X12_firstRates : Cond.instanceMethod yX12_firstRates ∈ zT ∧ Cond.selects yX12_firstRates.cls yX12_firstRates yX12_firstRates ∈ zT := ⟨zT_in 883 (by decide +kernel) (by decide +kernel), zT_in 54 (by decide +kernel) (by decide +kernel)⟩
abbrev zm_X12_in : ZM := (yX12_in, cX12_in, 3, (some .boolean), 0, 0, 0)
theorem ok_X12_in : zOk zm_X12_in 3 := ⟨zT_in 1002 (by decide +kernel) (by decide +kernel), zT_in 98 (by decide +kernel) (by decide +kernel), by decide +kernel, by decide +kernel, by decide +kernel, by decide +kernel⟩
theorem is_X12_in : Cond.static yX12_in ∈ zT := zT_in 1001 (by decide +kernel) (by decide +kernel)
abbrev zm_X12_write : ZM := (yX12_write, cX12_write, 2, (some .int), 1, 22, 0)
theorem ok_X12_write : zOk zm_X12_write 1 := ⟨zT_in 999 (by decide +kernel) (by decide +kernel), zT_in 98 (by decide +kernel) (by decide +kernel), by decide +kernel, by decide +kernel, by decide +kernel, by decide +kernel⟩
theorem iv_X12_write : Cond.instanceMethod yX12_write ∈ zT ∧ Cond.selects yX12_write.cls yX12_write yX12_write ∈ zT := ⟨zT_in 997 (by decide +kernel) (by decide +kernel), zT_in 998 (by decide +kernel) (by decide +kernel)⟩
abbrev zm_X12_wipe : ZM := (yX12_wipe, cX12_wipe, 2, (some .int), 0, 0, 0)
theorem ok_X12_wipe : zOk zm_X12_wipe 0 := ⟨zT_in 1006 (by decide +kernel) (by decide +kernel), zT_in 98 (by decide +kernel) (by decide +kernel), by decide +kernel, by decide +kernel, by decide +kernel, by decide +kernel⟩
theorem iv_X12_wipe : Cond.instanceMethod yX12_wipe ∈ zT ∧ Cond.selects yX12_wipe.cls yX12_wipe yX12_wipe ∈ zT := ⟨zT_in 1004 (by decide +kernel) (by decide +kernel), zT_in 1005 (by decide +kernel) (by decide +kernel)⟩
abbrev zm_X12_here : ZM := (yX12_here, cX12_here, 1, (some .int), 0, 0, 0)
theorem ok_X12_here : zOk zm_X12_here 0 := ⟨zT_in 1018 (by decide +kernel) (by decide +kernel), zT_in 98 (by decide +kernel) (by decide +kernel), by decide +kernel, by decide +kernel, by decide +kernel, by decide +kernel⟩
theorem iv_X12_here : Cond.instanceMethod yX12_here ∈ zT ∧ Cond.selects yX12_here.cls yX12_here yX12_here ∈ zT := ⟨zT_in 1017 (by decide +kernel) (by decide +kernel), zT_in 58 (by decide +kernel) (by decide +kernel)⟩
abbrev zm_X12_number : ZM := (yX12_number, cX12_number, 6, (some .int), 1, 22, 0)
theorem ok_X12_number : zOk zm_X12_number 3 := ⟨zT_in 1022 (by decide +kernel) (by decide +kernel), zT_in 98 (by decide +kernel) (by decide +kernel), by decide +kernel, by decide +kernel, by decide +kernel, by decide +kernel⟩
theorem iv_X12_number : Cond.instanceMethod yX12_number ∈ zT ∧ Cond.selects yX12_number.cls yX12_number yX12_number ∈ zT := ⟨zT_in 1021 (by decide +kernel) (by decide +kernel), zT_in 59 (by decide +kernel) (by decide +kernel)⟩
abbrev zm_X12_corner : ZM := (yX12_corner, cX12_corner, 2, (some .int), 2, 47, 0)
theorem ok_X12_corner : zOk zm_X12_corner 1 := ⟨zT_in 1030 (by decide +kernel) (by decide +kernel), zT_in 98 (by decide +kernel) (by decide +kernel), by decide +kernel, by decide +kernel, by decide +kernel, by decide +kernel⟩
theorem iv_X12_corner : Cond.instanceMethod yX12_corner ∈ zT ∧ Cond.selects yX12_corner.cls yX12_corner yX12_corner ∈ zT := ⟨zT_in 1029 (by decide +kernel) (by decide +kernel), zT_in 61 (by decide +kernel) (by decide +kernel)⟩
abbrev zm_X12_readStreet : ZM := (yX12_readStreet, cX12_readStreet, 7, none, 3, 68, 0)
theorem ok_X12_readStreet : zOk zm_X12_readStreet 0 := ⟨zT_in 1026 (by decide +kernel) (by decide +kernel), zT_in 98 (by decide +kernel) (by decide +kernel), by decide +kernel, by decide +kernel, by decide +kernel, by decide +kernel⟩
theorem iv_X12_readStreet : Cond.instanceMethod yX12_readStreet ∈ zT ∧ Cond.selects yX12_readStreet.cls yX12_readStreet yX12_readStreet ∈ zT := ⟨zT_in 1025 (by decide +kernel) (by decide +kernel), zT_in 60 (by decide +kernel) (by decide +kernel)⟩
abbrev zm_X12_readItem : ZM := (yX12_readItem, cX12_readItem, 11, none, 4, 94, 0)
theorem ok_X12_readItem : zOk zm_X12_readItem 0 := ⟨zT_in 1014 (by decide +kernel) (by decide +kernel), zT_in 98 (by decide +kernel) (by decide +kernel), by decide +kernel, by decide +kernel, by decide +kernel, by decide +kernel⟩
theorem iv_X12_readItem : Cond.instanceMethod yX12_readItem ∈ zT ∧ Cond.selects yX12_readItem.cls yX12_readItem yX12_readItem ∈ zT := ⟨zT_in 1013 (by decide +kernel) (by decide +kernel), zT_in 57 (by decide +kernel) (by decide +kernel)⟩
abbrev zm_X12_fault : ZM := (yX12_fault, cX12_fault, 2, (some .int), 5, 124, 0)
theorem ok_X12_fault : zOk zm_X12_fault 0 := ⟨zT_in 1010 (by decide +kernel) (by decide +kernel), zT_in 98 (by decide +kernel) (by decide +kernel), by decide +kernel, by decide +kernel, by decide +kernel, by decide +kernel⟩
theorem iv_X12_fault : Cond.instanceMethod yX12_fault ∈ zT ∧ Cond.selects yX12_fault.cls yX12_fault yX12_fault ∈ zT := ⟨zT_in 1008 (by decide +kernel) (by decide +kernel), zT_in 1009 (by decide +kernel) (by decide +kernel)⟩
abbrev zm_X12_takeDraft : ZM := (yX12_takeDraft, cX12_takeDraft, 2, none, 1, 24, 0)
theorem ok_X12_takeDraft : zOk zm_X12_takeDraft 0 := ⟨zT_in 888 (by decide +kernel) (by decide +kernel), zT_in 98 (by decide +kernel) (by decide +kernel), by decide +kernel, by decide +kernel, by decide +kernel, by decide +kernel⟩
theorem iv_X12_takeDraft : Cond.instanceMethod yX12_takeDraft ∈ zT ∧ Cond.selects yX12_takeDraft.cls yX12_takeDraft yX12_takeDraft ∈ zT := ⟨zT_in 887 (by decide +kernel) (by decide +kernel), zT_in 55 (by decide +kernel) (by decide +kernel)⟩
abbrev zm_X12_lay : ZM := (yX12_lay, cX12_lay, 1, (some .int), 6, 145, 0)
theorem ok_X12_lay : zOk zm_X12_lay 0 := ⟨zT_in 1034 (by decide +kernel) (by decide +kernel), zT_in 98 (by decide +kernel) (by decide +kernel), by decide +kernel, by decide +kernel, by decide +kernel, by decide +kernel⟩
theorem iv_X12_lay : Cond.instanceMethod yX12_lay ∈ zT ∧ Cond.selects yX12_lay.cls yX12_lay yX12_lay ∈ zT := ⟨zT_in 1032 (by decide +kernel) (by decide +kernel), zT_in 1033 (by decide +kernel) (by decide +kernel)⟩
abbrev zm_X12_copy : ZM := (yX12_copy, cX12_copy, 4, none, 0, 0, 0)
theorem ok_X12_copy : zOk zm_X12_copy 2 := ⟨zT_in 1127 (by decide +kernel) (by decide +kernel), zT_in 98 (by decide +kernel) (by decide +kernel), by decide +kernel, by decide +kernel, by decide +kernel, by decide +kernel⟩
theorem iv_X12_copy : Cond.instanceMethod yX12_copy ∈ zT ∧ Cond.selects yX12_copy.cls yX12_copy yX12_copy ∈ zT := ⟨zT_in 1126 (by decide +kernel) (by decide +kernel), zT_in 75 (by decide +kernel) (by decide +kernel)⟩
abbrev zm_X12_isCorner : ZM := (yX12_isCorner, cX12_isCorner, 2, (some .boolean), 1, 22, 0)
theorem ok_X12_isCorner : zOk zm_X12_isCorner 1 := ⟨zT_in 1043 (by decide +kernel) (by decide +kernel), zT_in 98 (by decide +kernel) (by decide +kernel), by decide +kernel, by decide +kernel, by decide +kernel, by decide +kernel⟩
theorem iv_X12_isCorner : Cond.instanceMethod yX12_isCorner ∈ zT ∧ Cond.selects yX12_isCorner.cls yX12_isCorner yX12_isCorner ∈ zT := ⟨zT_in 1042 (by decide +kernel) (by decide +kernel), zT_in 62 (by decide +kernel) (by decide +kernel)⟩
abbrev zm_X12_isWalker : ZM := (yX12_isWalker, cX12_isWalker, 2, (some .boolean), 1, 22, 0)
theorem ok_X12_isWalker : zOk zm_X12_isWalker 1 := ⟨zT_in 1063 (by decide +kernel) (by decide +kernel), zT_in 98 (by decide +kernel) (by decide +kernel), by decide +kernel, by decide +kernel, by decide +kernel, by decide +kernel⟩
theorem iv_X12_isWalker : Cond.instanceMethod yX12_isWalker ∈ zT ∧ Cond.selects yX12_isWalker.cls yX12_isWalker yX12_isWalker ∈ zT := ⟨zT_in 1062 (by decide +kernel) (by decide +kernel), zT_in 64 (by decide +kernel) (by decide +kernel)⟩
abbrev zm_X12_isSign : ZM := (yX12_isSign, cX12_isSign, 2, (some .boolean), 1, 22, 0)
theorem ok_X12_isSign : zOk zm_X12_isSign 1 := ⟨zT_in 1055 (by decide +kernel) (by decide +kernel), zT_in 98 (by decide +kernel) (by decide +kernel), by decide +kernel, by decide +kernel, by decide +kernel, by decide +kernel⟩
theorem iv_X12_isSign : Cond.instanceMethod yX12_isSign ∈ zT ∧ Cond.selects yX12_isSign.cls yX12_isSign yX12_isSign ∈ zT := ⟨zT_in 1054 (by decide +kernel) (by decide +kernel), zT_in 63 (by decide +kernel) (by decide +kernel)⟩
abbrev zm_X12_measure : ZM := (yX12_measure, cX12_measure, 5, none, 0, 0, 0)
theorem ok_X12_measure : zOk zm_X12_measure 1 := ⟨zT_in 892 (by decide +kernel) (by decide +kernel), zT_in 98 (by decide +kernel) (by decide +kernel), by decide +kernel, by decide +kernel, by decide +kernel, by decide +kernel⟩
theorem iv_X12_measure : Cond.instanceMethod yX12_measure ∈ zT ∧ Cond.selects yX12_measure.cls yX12_measure yX12_measure ∈ zT := ⟨zT_in 891 (by decide +kernel) (by decide +kernel), zT_in 56 (by decide +kernel) (by decide +kernel)⟩
abbrev zm_X12_far : ZM := (yX12_far, cX12_far, 3, (some .int), 2, 43, 0)
theorem ok_X12_far : zOk zm_X12_far 2 := ⟨zT_in 1039 (by decide +kernel) (by decide +kernel), zT_in 98 (by decide +kernel) (by decide +kernel), by decide +kernel, by decide +kernel, by decide +kernel, by decide +kernel⟩
theorem iv_X12_far : Cond.instanceMethod yX12_far ∈ zT ∧ Cond.selects yX12_far.cls yX12_far yX12_far ∈ zT := ⟨zT_in 1037 (by decide +kernel) (by decide +kernel), zT_in 1038 (by decide +kernel) (by decide +kernel)⟩
abbrev zm_X12_street : ZM := (yX12_street, cX12_street, 3, (some .int), 2, 43, 0)
theorem ok_X12_street : zOk zm_X12_street 2 := ⟨zT_in 1047 (by decide +kernel) (by decide +kernel), zT_in 98 (by decide +kernel) (by decide +kernel), by decide +kernel, by decide +kernel, by decide +kernel, by decide +kernel⟩
theorem iv_X12_street : Cond.instanceMethod yX12_street ∈ zT ∧ Cond.selects yX12_street.cls yX12_street yX12_street ∈ zT := ⟨zT_in 1045 (by decide +kernel) (by decide +kernel), zT_in 1046 (by decide +kernel) (by decide +kernel)⟩
abbrev zm_X12_sign : ZM := (yX12_sign, cX12_sign, 3, (some .int), 2, 43, 0)
theorem ok_X12_sign : zOk zm_X12_sign 2 := ⟨zT_in 1051 (by decide +kernel) (by decide +kernel), zT_in 98 (by decide +kernel) (by decide +kernel), by decide +kernel, by decide +kernel, by decide +kernel, by decide +kernel⟩
theorem iv_X12_sign : Cond.instanceMethod yX12_sign ∈ zT ∧ Cond.selects yX12_sign.cls yX12_sign yX12_sign ∈ zT := ⟨zT_in 1049 (by decide +kernel) (by decide +kernel), zT_in 1050 (by decide +kernel) (by decide +kernel)⟩
abbrev zm_X12_walker : ZM := (yX12_walker, cX12_walker, 3, (some .int), 2, 43, 0)
theorem ok_X12_walker : zOk zm_X12_walker 2 := ⟨zT_in 1059 (by decide +kernel) (by decide +kernel), zT_in 98 (by decide +kernel) (by decide +kernel), by decide +kernel, by decide +kernel, by decide +kernel, by decide +kernel⟩
theorem iv_X12_walker : Cond.instanceMethod yX12_walker ∈ zT ∧ Cond.selects yX12_walker.cls yX12_walker yX12_walker ∈ zT := ⟨zT_in 1057 (by decide +kernel) (by decide +kernel), zT_in 1058 (by decide +kernel) (by decide +kernel)⟩
abbrev zm_X12_isOnWay : ZM := (yX12_isOnWay, cX12_isOnWay, 4, (some .boolean), 0, 0, 0)
theorem ok_X12_isOnWay : zOk zm_X12_isOnWay 3 := ⟨zT_in 1095 (by decide +kernel) (by decide +kernel), zT_in 98 (by decide +kernel) (by decide +kernel), by decide +kernel, by decide +kernel, by decide +kernel, by decide +kernel⟩
theorem iv_X12_isOnWay : Cond.instanceMethod yX12_isOnWay ∈ zT ∧ Cond.selects yX12_isOnWay.cls yX12_isOnWay yX12_isOnWay ∈ zT := ⟨zT_in 1094 (by decide +kernel) (by decide +kernel), zT_in 71 (by decide +kernel) (by decide +kernel)⟩
abbrev zm_X12_nativeStep : ZM := (yX12_nativeStep, cX12_nativeStep, 4, (some .int), 1, 23, 0)
theorem ok_X12_nativeStep : zOk zm_X12_nativeStep 2 := ⟨zT_in 1091 (by decide +kernel) (by decide +kernel), zT_in 98 (by decide +kernel) (by decide +kernel), by decide +kernel, by decide +kernel, by decide +kernel, by decide +kernel⟩
theorem iv_X12_nativeStep : Cond.instanceMethod yX12_nativeStep ∈ zT ∧ Cond.selects yX12_nativeStep.cls yX12_nativeStep yX12_nativeStep ∈ zT := ⟨zT_in 1090 (by decide +kernel) (by decide +kernel), zT_in 70 (by decide +kernel) (by decide +kernel)⟩
abbrev zm_X12_onFrom : ZM := (yX12_onFrom, cX12_onFrom, 7, (some .int), 0, 0, 0)
theorem ok_X12_onFrom : zOk zm_X12_onFrom 3 := ⟨zT_in 1087 (by decide +kernel) (by decide +kernel), zT_in 98 (by decide +kernel) (by decide +kernel), by decide +kernel, by decide +kernel, by decide +kernel, by decide +kernel⟩
theorem iv_X12_onFrom : Cond.instanceMethod yX12_onFrom ∈ zT ∧ Cond.selects yX12_onFrom.cls yX12_onFrom yX12_onFrom ∈ zT := ⟨zT_in 1086 (by decide +kernel) (by decide +kernel), zT_in 69 (by decide +kernel) (by decide +kernel)⟩
abbrev zm_X12_strangerStep : ZM := (yX12_strangerStep, cX12_strangerStep, 8, (some .int), 1, 26, 0)
theorem ok_X12_strangerStep : zOk zm_X12_strangerStep 4 := ⟨zT_in 1083 (by decide +kernel) (by decide +kernel), zT_in 98 (by decide +kernel) (by decide +kernel), by decide +kernel, by decide +kernel, by decide +kernel, by decide +kernel⟩
theorem iv_X12_strangerStep : Cond.instanceMethod yX12_strangerStep ∈ zT ∧ Cond.selects yX12_strangerStep.cls yX12_strangerStep yX12_strangerStep ∈ zT := ⟨zT_in 1082 (by decide +kernel) (by decide +kernel), zT_in 68 (by decide +kernel) (by decide +kernel)⟩
abbrev zm_X12_nextOf : ZM := (yX12_nextOf, cX12_nextOf, 6, (some .int), 2, 53, 0)
theorem ok_X12_nextOf : zOk zm_X12_nextOf 5 := ⟨zT_in 1079 (by decide +kernel) (by decide +kernel), zT_in 98 (by decide +kernel) (by decide +kernel), by decide +kernel, by decide +kernel, by decide +kernel, by decide +kernel⟩
theorem iv_X12_nextOf : Cond.instanceMethod yX12_nextOf ∈ zT ∧ Cond.selects yX12_nextOf.cls yX12_nextOf yX12_nextOf ∈ zT := ⟨zT_in 1078 (by decide +kernel) (by decide +kernel), zT_in 67 (by decide +kernel) (by decide +kernel)⟩
abbrev zm_X12_go : ZM := (yX12_go, cX12_go, 10, none, 3, 78, 0)
theorem ok_X12_go : zOk zm_X12_go 5 := ⟨zT_in 1075 (by decide +kernel) (by decide +kernel), zT_in 98 (by decide +kernel) (by decide +kernel), by decide +kernel, by decide +kernel, by decide +kernel, by decide +kernel⟩
theorem iv_X12_go : Cond.instanceMethod yX12_go ∈ zT ∧ Cond.selects yX12_go.cls yX12_go yX12_go ∈ zT := ⟨zT_in 1074 (by decide +kernel) (by decide +kernel), zT_in 66 (by decide +kernel) (by decide +kernel)⟩
abbrev zm_X12_goAs : ZM := (yX12_goAs, cX12_goAs, 3, none, 4, 107, 0)
theorem ok_X12_goAs : zOk zm_X12_goAs 2 := ⟨zT_in 1071 (by decide +kernel) (by decide +kernel), zT_in 98 (by decide +kernel) (by decide +kernel), by decide +kernel, by decide +kernel, by decide +kernel, by decide +kernel⟩
theorem iv_X12_goAs : Cond.instanceMethod yX12_goAs ∈ zT ∧ Cond.selects yX12_goAs.cls yX12_goAs yX12_goAs ∈ zT := ⟨zT_in 1070 (by decide +kernel) (by decide +kernel), zT_in 65 (by decide +kernel) (by decide +kernel)⟩
abbrev zm_X12_walk : ZM := (yX12_walk, cX12_walk, 3, (some .int), 5, 129, 0)
theorem ok_X12_walk : zOk zm_X12_walk 2 := ⟨zT_in 1067 (by decide +kernel) (by decide +kernel), zT_in 98 (by decide +kernel) (by decide +kernel), by decide +kernel, by decide +kernel, by decide +kernel, by decide +kernel⟩
theorem iv_X12_walk : Cond.instanceMethod yX12_walk ∈ zT ∧ Cond.selects yX12_walk.cls yX12_walk yX12_walk ∈ zT := ⟨zT_in 1065 (by decide +kernel) (by decide +kernel), zT_in 1066 (by decide +kernel) (by decide +kernel)⟩
abbrev zm_X12_way : ZM := (yX12_way, cX12_way, 3, (some .int), 5, 129, 0)
theorem ok_X12_way : zOk zm_X12_way 2 := ⟨zT_in 1099 (by decide +kernel) (by decide +kernel), zT_in 98 (by decide +kernel) (by decide +kernel), by decide +kernel, by decide +kernel, by decide +kernel, by decide +kernel⟩
theorem iv_X12_way : Cond.instanceMethod yX12_way ∈ zT ∧ Cond.selects yX12_way.cls yX12_way yX12_way ∈ zT := ⟨zT_in 1097 (by decide +kernel) (by decide +kernel), zT_in 1098 (by decide +kernel) (by decide +kernel)⟩
abbrev zm_X12_cameTo : ZM := (yX12_cameTo, cX12_cameTo, 2, (some .int), 0, 0, 0)
theorem ok_X12_cameTo : zOk zm_X12_cameTo 1 := ⟨zT_in 1107 (by decide +kernel) (by decide +kernel), zT_in 98 (by decide +kernel) (by decide +kernel), by decide +kernel, by decide +kernel, by decide +kernel, by decide +kernel⟩
theorem iv_X12_cameTo : Cond.instanceMethod yX12_cameTo ∈ zT ∧ Cond.selects yX12_cameTo.cls yX12_cameTo yX12_cameTo ∈ zT := ⟨zT_in 1106 (by decide +kernel) (by decide +kernel), zT_in 72 (by decide +kernel) (by decide +kernel)⟩
abbrev zm_X12_round : ZM := (yX12_round, cX12_round, 4, (some .int), 5, 129, 0)
theorem ok_X12_round : zOk zm_X12_round 1 := ⟨zT_in 1103 (by decide +kernel) (by decide +kernel), zT_in 98 (by decide +kernel) (by decide +kernel), by decide +kernel, by decide +kernel, by decide +kernel, by decide +kernel⟩
theorem iv_X12_round : Cond.instanceMethod yX12_round ∈ zT ∧ Cond.selects yX12_round.cls yX12_round yX12_round ∈ zT := ⟨zT_in 1101 (by decide +kernel) (by decide +kernel), zT_in 1102 (by decide +kernel) (by decide +kernel)⟩
abbrev zm_X12_taxBy : ZM := (yX12_taxBy, cX12_taxBy, 4, (some .int), 5, 129, 0)
theorem ok_X12_taxBy : zOk zm_X12_taxBy 1 := ⟨zT_in 1115 (by decide +kernel) (by decide +kernel), zT_in 98 (by decide +kernel) (by decide +kernel), by decide +kernel, by decide +kernel, by decide +kernel, by decide +kernel⟩
theorem iv_X12_taxBy : Cond.instanceMethod yX12_taxBy ∈ zT ∧ Cond.selects yX12_taxBy.cls yX12_taxBy yX12_taxBy ∈ zT := ⟨zT_in 1114 (by decide +kernel) (by decide +kernel), zT_in 73 (by decide +kernel) (by decide +kernel)⟩
abbrev zm_X12_tax : ZM := (yX12_tax, cX12_tax, 1, (some .int), 6, 152, 0)
theorem ok_X12_tax : zOk zm_X12_tax 0 := ⟨zT_in 1111 (by decide +kernel) (by decide +kernel), zT_in 98 (by decide +kernel) (by decide +kernel), by decide +kernel, by decide +kernel, by decide +kernel, by decide +kernel⟩
theorem iv_X12_tax : Cond.instanceMethod yX12_tax ∈ zT ∧ Cond.selects yX12_tax.cls yX12_tax yX12_tax ∈ zT := ⟨zT_in 1109 (by decide +kernel) (by decide +kernel), zT_in 1110 (by decide +kernel) (by decide +kernel)⟩
abbrev zm_X12_know : ZM := (yX12_know, cX12_know, 2, none, 1, 23, 0)
theorem ok_X12_know : zOk zm_X12_know 0 := ⟨zT_in 1123 (by decide +kernel) (by decide +kernel), zT_in 98 (by decide +kernel) (by decide +kernel), by decide +kernel, by decide +kernel, by decide +kernel, by decide +kernel⟩
theorem iv_X12_know : Cond.instanceMethod yX12_know ∈ zT ∧ Cond.selects yX12_know.cls yX12_know yX12_know ∈ zT := ⟨zT_in 1122 (by decide +kernel) (by decide +kernel), zT_in 74 (by decide +kernel) (by decide +kernel)⟩
abbrev zm_X12_putUp : ZM := (yX12_putUp, cX12_putUp, 6, none, 0, 0, 0)
theorem ok_X12_putUp : zOk zm_X12_putUp 4 := ⟨zT_in 1131 (by decide +kernel) (by decide +kernel), zT_in 98 (by decide +kernel) (by decide +kernel), by decide +kernel, by decide +kernel, by decide +kernel, by decide +kernel⟩
theorem iv_X12_putUp : Cond.instanceMethod yX12_putUp ∈ zT ∧ Cond.selects yX12_putUp.cls yX12_putUp yX12_putUp ∈ zT := ⟨zT_in 1130 (by decide +kernel) (by decide +kernel), zT_in 76 (by decide +kernel) (by decide +kernel)⟩
abbrev zm_X12_takeDown : ZM := (yX12_takeDown, cX12_takeDown, 4, none, 0, 0, 0)
theorem ok_X12_takeDown : zOk zm_X12_takeDown 2 := ⟨zT_in 1139 (by decide +kernel) (by decide +kernel), zT_in 98 (by decide +kernel) (by decide +kernel), by decide +kernel, by decide +kernel, by decide +kernel, by decide +kernel⟩
theorem iv_X12_takeDown : Cond.instanceMethod yX12_takeDown ∈ zT ∧ Cond.selects yX12_takeDown.cls yX12_takeDown yX12_takeDown ∈ zT := ⟨zT_in 1138 (by decide +kernel) (by decide +kernel), zT_in 77 (by decide +kernel) (by decide +kernel)⟩
abbrev zm_X12_put : ZM := (yX12_put, cX12_put, 4, (some .int), 2, 44, 0)
theorem ok_X12_put : zOk zm_X12_put 3 := ⟨zT_in 1119 (by decide +kernel) (by decide +kernel), zT_in 98 (by decide +kernel) (by decide +kernel), by decide +kernel, by decide +kernel, by decide +kernel, by decide +kernel⟩
theorem iv_X12_put : Cond.instanceMethod yX12_put ∈ zT ∧ Cond.selects yX12_put.cls yX12_put yX12_put ∈ zT := ⟨zT_in 1117 (by decide +kernel) (by decide +kernel), zT_in 1118 (by decide +kernel) (by decide +kernel)⟩
abbrev zm_X12_take : ZM := (yX12_take, cX12_take, 2, (some .int), 2, 44, 0)
theorem ok_X12_take : zOk zm_X12_take 1 := ⟨zT_in 1135 (by decide +kernel) (by decide +kernel), zT_in 98 (by decide +kernel) (by decide +kernel), by decide +kernel, by decide +kernel, by decide +kernel, by decide +kernel⟩
theorem iv_X12_take : Cond.instanceMethod yX12_take ∈ zT ∧ Cond.selects yX12_take.cls yX12_take yX12_take ∈ zT := ⟨zT_in 1133 (by decide +kernel) (by decide +kernel), zT_in 1134 (by decide +kernel) (by decide +kernel)⟩
abbrev zm_X12_tell : ZM := (yX12_tell, cX12_tell, 4, (some .int), 2, 44, 0)
theorem ok_X12_tell : zOk zm_X12_tell 2 := ⟨zT_in 1143 (by decide +kernel) (by decide +kernel), zT_in 98 (by decide +kernel) (by decide +kernel), by decide +kernel, by decide +kernel, by decide +kernel, by decide +kernel⟩
theorem iv_X12_tell : Cond.instanceMethod yX12_tell ∈ zT ∧ Cond.selects yX12_tell.cls yX12_tell yX12_tell ∈ zT := ⟨zT_in 1141 (by decide +kernel) (by decide +kernel), zT_in 1142 (by decide +kernel) (by decide +kernel)⟩
abbrev zm_X12_undo : ZM := (yX12_undo, cX12_undo, 1, (some .int), 1, 23, 0)
theorem ok_X12_undo : zOk zm_X12_undo 0 := ⟨zT_in 1147 (by decide +kernel) (by decide +kernel), zT_in 98 (by decide +kernel) (by decide +kernel), by decide +kernel, by decide +kernel, by decide +kernel, by decide +kernel⟩
theorem iv_X12_undo : Cond.instanceMethod yX12_undo ∈ zT ∧ Cond.selects yX12_undo.cls yX12_undo yX12_undo ∈ zT := ⟨zT_in 1145 (by decide +kernel) (by decide +kernel), zT_in 1146 (by decide +kernel) (by decide +kernel)⟩
abbrev zm_X12_lies : ZM := (yX12_lies, cX12_lies, 4, (some .int), 1, 23, 0)
theorem ok_X12_lies : zOk zm_X12_lies 0 := ⟨zT_in 1151 (by decide +kernel) (by decide +kernel), zT_in 98 (by decide +kernel) (by decide +kernel), by decide +kernel, by decide +kernel, by decide +kernel, by decide +kernel⟩
theorem iv_X12_lies : Cond.instanceMethod yX12_lies ∈ zT ∧ Cond.selects yX12_lies.cls yX12_lies yX12_lies ∈ zT := ⟨zT_in 1149 (by decide +kernel) (by decide +kernel), zT_in 1150 (by decide +kernel) (by decide +kernel)⟩
abbrev zm_X12_lure : ZM := (yX12_lure, cX12_lure, 8, (some .int), 6, 152, 0)
theorem ok_X12_lure : zOk zm_X12_lure 1 := ⟨zT_in 1155 (by decide +kernel) (by decide +kernel), zT_in 98 (by decide +kernel) (by decide +kernel), by decide +kernel, by decide +kernel, by decide +kernel, by decide +kernel⟩
theorem iv_X12_lure : Cond.instanceMethod yX12_lure ∈ zT ∧ Cond.selects yX12_lure.cls yX12_lure yX12_lure ∈ zT := ⟨zT_in 1153 (by decide +kernel) (by decide +kernel), zT_in 1154 (by decide +kernel) (by decide +kernel)⟩
abbrev zm_X12_mend : ZM := (yX12_mend, cX12_mend, 6, (some .int), 6, 152, 0)
theorem ok_X12_mend : zOk zm_X12_mend 1 := ⟨zT_in 1159 (by decide +kernel) (by decide +kernel), zT_in 98 (by decide +kernel) (by decide +kernel), by decide +kernel, by decide +kernel, by decide +kernel, by decide +kernel⟩
theorem iv_X12_mend : Cond.instanceMethod yX12_mend ∈ zT ∧ Cond.selects yX12_mend.cls yX12_mend yX12_mend ∈ zT := ⟨zT_in 1157 (by decide +kernel) (by decide +kernel), zT_in 1158 (by decide +kernel) (by decide +kernel)⟩
abbrev zm_X12_best : ZM := (yX12_best, cX12_best, 6, (some .int), 4, 107, 0)
theorem ok_X12_best : zOk zm_X12_best 2 := ⟨zT_in 1163 (by decide +kernel) (by decide +kernel), zT_in 98 (by decide +kernel) (by decide +kernel), by decide +kernel, by decide +kernel, by decide +kernel, by decide +kernel⟩
theorem iv_X12_best : Cond.instanceMethod yX12_best ∈ zT ∧ Cond.selects yX12_best.cls yX12_best yX12_best ∈ zT := ⟨zT_in 1161 (by decide +kernel) (by decide +kernel), zT_in 1162 (by decide +kernel) (by decide +kernel)⟩
abbrev zm_X12_watch : ZM := (yX12_watch, cX12_watch, 4, (some .int), 6, 152, 0)
theorem ok_X12_watch : zOk zm_X12_watch 1 := ⟨zT_in 1167 (by decide +kernel) (by decide +kernel), zT_in 98 (by decide +kernel) (by decide +kernel), by decide +kernel, by decide +kernel, by decide +kernel, by decide +kernel⟩
theorem iv_X12_watch : Cond.instanceMethod yX12_watch ∈ zT ∧ Cond.selects yX12_watch.cls yX12_watch yX12_watch ∈ zT := ⟨zT_in 1165 (by decide +kernel) (by decide +kernel), zT_in 1166 (by decide +kernel) (by decide +kernel)⟩
abbrev zm_X12_moreWithout : ZM := (yX12_moreWithout, cX12_moreWithout, 5, (some .int), 1, 24, 0)
theorem ok_X12_moreWithout : zOk zm_X12_moreWithout 1 := ⟨zT_in 1175 (by decide +kernel) (by decide +kernel), zT_in 98 (by decide +kernel) (by decide +kernel), by decide +kernel, by decide +kernel, by decide +kernel, by decide +kernel⟩
theorem iv_X12_moreWithout : Cond.instanceMethod yX12_moreWithout ∈ zT ∧ Cond.selects yX12_moreWithout.cls yX12_moreWithout yX12_moreWithout ∈ zT := ⟨zT_in 1174 (by decide +kernel) (by decide +kernel), zT_in 78 (by decide +kernel) (by decide +kernel)⟩
abbrev zm_X12_missed : ZM := (yX12_missed, cX12_missed, 6, (some .int), 2, 48, 0)
theorem ok_X12_missed : zOk zm_X12_missed 1 := ⟨zT_in 1171 (by decide +kernel) (by decide +kernel), zT_in 98 (by decide +kernel) (by decide +kernel), by decide +kernel, by decide +kernel, by decide +kernel, by decide +kernel⟩
theorem iv_X12_missed : Cond.instanceMethod yX12_missed ∈ zT ∧ Cond.selects yX12_missed.cls yX12_missed yX12_missed ∈ zT := ⟨zT_in 1169 (by decide +kernel) (by decide +kernel), zT_in 1170 (by decide +kernel) (by decide +kernel)⟩
abbrev zm_X12_seen : ZM := (yX12_seen, cX12_seen, 4, (some .int), 2, 43, 0)
theorem ok_X12_seen : zOk zm_X12_seen 3 := ⟨zT_in 1179 (by decide +kernel) (by decide +kernel), zT_in 98 (by decide +kernel) (by decide +kernel), by decide +kernel, by decide +kernel, by decide +kernel, by decide +kernel⟩
theorem iv_X12_seen : Cond.instanceMethod yX12_seen ∈ zT ∧ Cond.selects yX12_seen.cls yX12_seen yX12_seen ∈ zT := ⟨zT_in 1177 (by decide +kernel) (by decide +kernel), zT_in 1178 (by decide +kernel) (by decide +kernel)⟩
abbrev zm_X12_forget : ZM := (yX12_forget, cX12_forget, 2, (some .int), 0, 0, 0)
theorem ok_X12_forget : zOk zm_X12_forget 0 := ⟨zT_in 1183 (by decide +kernel) (by decide +kernel), zT_in 98 (by decide +kernel) (by decide +kernel), by decide +kernel, by decide +kernel, by decide +kernel, by decide +kernel⟩
theorem iv_X12_forget : Cond.instanceMethod yX12_forget ∈ zT ∧ Cond.selects yX12_forget.cls yX12_forget yX12_forget ∈ zT := ⟨zT_in 1181 (by decide +kernel) (by decide +kernel), zT_in 1182 (by decide +kernel) (by decide +kernel)⟩
abbrev zm_X12_kinds : ZM := (yX12_kinds, cX12_kinds, 6, (some .int), 4, 107, 0)
theorem ok_X12_kinds : zOk zm_X12_kinds 1 := ⟨zT_in 1187 (by decide +kernel) (by decide +kernel), zT_in 98 (by decide +kernel) (by decide +kernel), by decide +kernel, by decide +kernel, by decide +kernel, by decide +kernel⟩
theorem iv_X12_kinds : Cond.instanceMethod yX12_kinds ∈ zT ∧ Cond.selects yX12_kinds.cls yX12_kinds yX12_kinds ∈ zT := ⟨zT_in 1185 (by decide +kernel) (by decide +kernel), zT_in 1186 (by decide +kernel) (by decide +kernel)⟩
abbrev zm_X12_paid : ZM := (yX12_paid, cX12_paid, 8, (some .int), 5, 129, 0)
theorem ok_X12_paid : zOk zm_X12_paid 2 := ⟨zT_in 1191 (by decide +kernel) (by decide +kernel), zT_in 98 (by decide +kernel) (by decide +kernel), by decide +kernel, by decide +kernel, by decide +kernel, by decide +kernel⟩
theorem iv_X12_paid : Cond.instanceMethod yX12_paid ∈ zT ∧ Cond.selects yX12_paid.cls yX12_paid yX12_paid ∈ zT := ⟨zT_in 1189 (by decide +kernel) (by decide +kernel), zT_in 1190 (by decide +kernel) (by decide +kernel)⟩
abbrev zm_X12_turned : ZM := (yX12_turned, cX12_turned, 4, (some .int), 0, 0, 0)
theorem ok_X12_turned : zOk zm_X12_turned 2 := ⟨zT_in 1199 (by decide +kernel) (by decide +kernel), zT_in 98 (by decide +kernel) (by decide +kernel), by decide +kernel, by decide +kernel, by decide +kernel, by decide +kernel⟩
theorem iv_X12_turned : Cond.instanceMethod yX12_turned ∈ zT ∧ Cond.selects yX12_turned.cls yX12_turned yX12_turned ∈ zT := ⟨zT_in 1198 (by decide +kernel) (by decide +kernel), zT_in 79 (by decide +kernel) (by decide +kernel)⟩
abbrev zm_X12_mean : ZM := (yX12_mean, cX12_mean, 12, (some .int), 6, 152, 0)
theorem ok_X12_mean : zOk zm_X12_mean 3 := ⟨zT_in 1195 (by decide +kernel) (by decide +kernel), zT_in 98 (by decide +kernel) (by decide +kernel), by decide +kernel, by decide +kernel, by decide +kernel, by decide +kernel⟩
theorem iv_X12_mean : Cond.instanceMethod yX12_mean ∈ zT ∧ Cond.selects yX12_mean.cls yX12_mean yX12_mean ∈ zT := ⟨zT_in 1193 (by decide +kernel) (by decide +kernel), zT_in 1194 (by decide +kernel) (by decide +kernel)⟩
abbrev zm_X12_day : ZM := (yX12_day, cX12_day, 10, (some .int), 4, 107, 0)
theorem ok_X12_day : zOk zm_X12_day 2 := ⟨zT_in 1203 (by decide +kernel) (by decide +kernel), zT_in 98 (by decide +kernel) (by decide +kernel), by decide +kernel, by decide +kernel, by decide +kernel, by decide +kernel⟩
theorem iv_X12_day : Cond.instanceMethod yX12_day ∈ zT ∧ Cond.selects yX12_day.cls yX12_day yX12_day ∈ zT := ⟨zT_in 1201 (by decide +kernel) (by decide +kernel), zT_in 1202 (by decide +kernel) (by decide +kernel)⟩
abbrev zm_X12_keep : ZM := (yX12_keep, cX12_keep, 1, (some .int), 1, 23, 0)
theorem ok_X12_keep : zOk zm_X12_keep 0 := ⟨zT_in 1210 (by decide +kernel) (by decide +kernel), zT_in 98 (by decide +kernel) (by decide +kernel), by decide +kernel, by decide +kernel, by decide +kernel, by decide +kernel⟩
theorem iv_X12_keep : Cond.instanceMethod yX12_keep ∈ zT ∧ Cond.selects yX12_keep.cls yX12_keep yX12_keep ∈ zT := ⟨zT_in 1208 (by decide +kernel) (by decide +kernel), zT_in 1209 (by decide +kernel) (by decide +kernel)⟩
abbrev zm_X12_back : ZM := (yX12_back, cX12_back, 1, (some .int), 1, 23, 0)
theorem ok_X12_back : zOk zm_X12_back 0 := ⟨zT_in 1214 (by decide +kernel) (by decide +kernel), zT_in 98 (by decide +kernel) (by decide +kernel), by decide +kernel, by decide +kernel, by decide +kernel, by decide +kernel⟩
theorem iv_X12_back : Cond.instanceMethod yX12_back ∈ zT ∧ Cond.selects yX12_back.cls yX12_back yX12_back ∈ zT := ⟨zT_in 1212 (by decide +kernel) (by decide +kernel), zT_in 1213 (by decide +kernel) (by decide +kernel)⟩
abbrev zm_X12_count : ZM := (yX12_count, cX12_count, 2, (some .int), 0, 0, 0)
theorem ok_X12_count : zOk zm_X12_count 1 := ⟨zT_in 1218 (by decide +kernel) (by decide +kernel), zT_in 98 (by decide +kernel) (by decide +kernel), by decide +kernel, by decide +kernel, by decide +kernel, by decide +kernel⟩
theorem iv_X12_count : Cond.instanceMethod yX12_count ∈ zT ∧ Cond.selects yX12_count.cls yX12_count yX12_count ∈ zT := ⟨zT_in 1216 (by decide +kernel) (by decide +kernel), zT_in 1217 (by decide +kernel) (by decide +kernel)⟩
abbrev zm_J0_length_8abf5 : ZM := (yJ0_length_8abf5, cJ0_length_8abf5, 1, (some .int), 1, 20, 0)
theorem ok_J0_length_8abf5 : zOk zm_J0_length_8abf5 0 := ⟨zT_in 401 (by decide +kernel) (by decide +kernel), zT_in 93 (by decide +kernel) (by decide +kernel), by decide +kernel, by decide +kernel, by decide +kernel, by decide +kernel⟩
theorem iv_J0_length_8abf5 : Cond.instanceMethod yJ0_length_8abf5 ∈ zT ∧ Cond.selects yJ0_length_8abf5.cls yJ0_length_8abf5 yJ0_length_8abf5 ∈ zT := ⟨zT_in 399 (by decide +kernel) (by decide +kernel), zT_in 400 (by decide +kernel) (by decide +kernel)⟩
abbrev zm_J0_charAt_5068e : ZM := (yJ0_charAt_5068e, cJ0_charAt_5068e, 2, (some .char), 3, 64, 0)
theorem ok_J0_charAt_5068e : zOk zm_J0_charAt_5068e 1 := ⟨zT_in 411 (by decide +kernel) (by decide +kernel), zT_in 93 (by decide +kernel) (by decide +kernel), by decide +kernel, by decide +kernel, by decide +kernel, by decide +kernel⟩
theorem iv_J0_charAt_5068e : Cond.instanceMethod yJ0_charAt_5068e ∈ zT ∧ Cond.selects yJ0_charAt_5068e.cls yJ0_charAt_5068e yJ0_charAt_5068e ∈ zT := ⟨zT_in 409 (by decide +kernel) (by decide +kernel), zT_in 410 (by decide +kernel) (by decide +kernel)⟩
abbrev zm_J0_coder_7d493 : ZM := (yJ0_coder_7d493, cJ0_coder_7d493, 1, (some .byte), 0, 0, 0)
theorem ok_J0_coder_7d493 : zOk zm_J0_coder_7d493 0 := ⟨zT_in 405 (by decide +kernel) (by decide +kernel), zT_in 93 (by decide +kernel) (by decide +kernel), by decide +kernel, by decide +kernel, by decide +kernel, by decide +kernel⟩
theorem iv_J0_coder_7d493 : Cond.instanceMethod yJ0_coder_7d493 ∈ zT ∧ Cond.selects yJ0_coder_7d493.cls yJ0_coder_7d493 yJ0_coder_7d493 ∈ zT := ⟨zT_in 403 (by decide +kernel) (by decide +kernel), zT_in 404 (by decide +kernel) (by decide +kernel)⟩
abbrev zm_J0_isLatin1_aae02 : ZM := (yJ0_isLatin1_aae02, cJ0_isLatin1_aae02, 1, (some .boolean), 0, 0, 0)
theorem ok_J0_isLatin1_aae02 : zOk zm_J0_isLatin1_aae02 0 := ⟨zT_in 415 (by decide +kernel) (by decide +kernel), zT_in 93 (by decide +kernel) (by decide +kernel), by decide +kernel, by decide +kernel, by decide +kernel, by decide +kernel⟩
theorem iv_J0_isLatin1_aae02 : Cond.instanceMethod yJ0_isLatin1_aae02 ∈ zT ∧ Cond.selects yJ0_isLatin1_aae02.cls yJ0_isLatin1_aae02 yJ0_isLatin1_aae02 ∈ zT := ⟨zT_in 413 (by decide +kernel) (by decide +kernel), zT_in 414 (by decide +kernel) (by decide +kernel)⟩
abbrev zm_J0_checkIndex_df160 : ZM := (yJ0_checkIndex_df160, cJ0_checkIndex_df160, 2, none, 1, 22, 0)
theorem ok_J0_checkIndex_df160 : zOk zm_J0_checkIndex_df160 2 := ⟨zT_in 421 (by decide +kernel) (by decide +kernel), zT_in 93 (by decide +kernel) (by decide +kernel), by decide +kernel, by decide +kernel, by decide +kernel, by decide +kernel⟩
theorem is_J0_checkIndex_df160 : Cond.static yJ0_checkIndex_df160 ∈ zT := zT_in 420 (by decide +kernel) (by decide +kernel)
abbrev zm_J1_charAt_3b067 : ZM := (yJ1_charAt_3b067, cJ1_charAt_3b067, 2, (some .char), 2, 43, 0)
theorem ok_J1_charAt_3b067 : zOk zm_J1_charAt_3b067 2 := ⟨zT_in 418 (by decide +kernel) (by decide +kernel), zT_in 94 (by decide +kernel) (by decide +kernel), by decide +kernel, by decide +kernel, by decide +kernel, by decide +kernel⟩
theorem is_J1_charAt_3b067 : Cond.static yJ1_charAt_3b067 ∈ zT := zT_in 417 (by decide +kernel) (by decide +kernel)
abbrev zm_J7_fill_53178 : ZM := (yJ7_fill_53178, cJ7_fill_53178, 4, none, 0, 0, 0)
theorem ok_J7_fill_53178 : zOk zm_J7_fill_53178 2 := ⟨zT_in 468 (by decide +kernel) (by decide +kernel), zT_in 97 (by decide +kernel) (by decide +kernel), by decide +kernel, by decide +kernel, by decide +kernel, by decide +kernel⟩
theorem is_J7_fill_53178 : Cond.static yJ7_fill_53178 ∈ zT := zT_in 467 (by decide +kernel) (by decide +kernel)
abbrev zm_L_law : ZM := (yL_law, cL_law, 4, (some .boolean), 7, 183, 0)
theorem fl_X11_10 : zFl RX11 10 11 0 := Or.inl (zT_in 540 (by decide +kernel) (by decide +kernel))
theorem fl_X11_19 : zFl RX11 19 11 1 := Or.inl (zT_in 541 (by decide +kernel) (by decide +kernel))
theorem fl_X11_26 : zFl RX11 26 11 2 := Or.inl (zT_in 542 (by decide +kernel) (by decide +kernel))
theorem fl_X11_30 : zFl RX11 30 11 3 := Or.inl (zT_in 543 (by decide +kernel) (by decide +kernel))
theorem fl_X11_36 : zFl RX11 36 11 4 := Or.inl (zT_in 544 (by decide +kernel) (by decide +kernel))
theorem fl_X11_43 : zFl RX11 43 11 5 := Or.inl (zT_in 545 (by decide +kernel) (by decide +kernel))
theorem fl_X11_50 : zFl RX11 50 11 6 := Or.inl (zT_in 546 (by decide +kernel) (by decide +kernel))
theorem fl_X11_57 : zFl RX11 57 11 7 := Or.inl (zT_in 547 (by decide +kernel) (by decide +kernel))
theorem fl_X11_64 : zFl RX11 64 11 8 := Or.inl (zT_in 548 (by decide +kernel) (by decide +kernel))
theorem fl_X11_71 : zFl RX11 71 11 9 := Or.inl (zT_in 549 (by decide +kernel) (by decide +kernel))
theorem fl_X11_77 : zFl RX11 77 11 10 := Or.inl (zT_in 550 (by decide +kernel) (by decide +kernel))
theorem fl_X11_80 : zFl RX11 80 11 11 := Or.inl (zT_in 551 (by decide +kernel) (by decide +kernel))
theorem fl_X11_84 : zFl RX11 84 11 12 := Or.inl (zT_in 552 (by decide +kernel) (by decide +kernel))
theorem fl_X0_9 : zFl RX0 9 0 0 := Or.inl (zT_in 319 (by decide +kernel) (by decide +kernel))
theorem fl_X0_15 : zFl RX0 15 0 1 := Or.inl (zT_in 320 (by decide +kernel) (by decide +kernel))
theorem fl_X0_18 : zFl RX0 18 0 2 := Or.inl (zT_in 321 (by decide +kernel) (by decide +kernel))
theorem fl_X0_21 : zFl RX0 21 0 3 := Or.inl (zT_in 322 (by decide +kernel) (by decide +kernel))
theorem fl_X0_24 : zFl RX0 24 0 4 := Or.inl (zT_in 323 (by decide +kernel) (by decide +kernel))
theorem fl_X0_27 : zFl RX0 27 0 5 := Or.inl (zT_in 324 (by decide +kernel) (by decide +kernel))
theorem fl_X0_31 : zFl RX0 31 0 6 := Or.inl (zT_in 325 (by decide +kernel) (by decide +kernel))
theorem fl_X1_9 : zFl RX1 9 1 0 := Or.inl (zT_in 389 (by decide +kernel) (by decide +kernel))
theorem fl_X1_15 : zFl RX1 15 1 1 := Or.inl (zT_in 390 (by decide +kernel) (by decide +kernel))
theorem fl_X2_9 : zFl RX2 9 2 0 := Or.inl (zT_in 131 (by decide +kernel) (by decide +kernel))
theorem fl_X2_20 : zFl RX2 20 2 1 := Or.inl (zT_in 132 (by decide +kernel) (by decide +kernel))
theorem fl_X2_24 : zFl RX2 24 2 2 := Or.inl (zT_in 133 (by decide +kernel) (by decide +kernel))
theorem fl_X3_11 : zFl RX3 11 3 0 := Or.inl (zT_in 352 (by decide +kernel) (by decide +kernel))
theorem fl_X3_19 : zFl RX3 19 3 1 := Or.inl (zT_in 353 (by decide +kernel) (by decide +kernel))
theorem fl_X3_23 : zFl RX3 23 3 2 := Or.inl (zT_in 354 (by decide +kernel) (by decide +kernel))
theorem fl_X4_9 : zFl RX4 9 4 0 := Or.inl (zT_in 369 (by decide +kernel) (by decide +kernel))
theorem fl_X4_15 : zFl RX4 15 4 1 := Or.inl (zT_in 370 (by decide +kernel) (by decide +kernel))
theorem fl_X4_18 : zFl RX4 18 4 2 := Or.inl (zT_in 371 (by decide +kernel) (by decide +kernel))
theorem fl_X4_21 : zFl RX4 21 4 3 := Or.inl (zT_in 372 (by decide +kernel) (by decide +kernel))
theorem fl_X5_11 : zFl RX5 11 5 0 := Or.inl (zT_in 189 (by decide +kernel) (by decide +kernel))
theorem fl_X5_15 : zFl RX5 15 5 1 := Or.inl (zT_in 191 (by decide +kernel) (by decide +kernel))
theorem fl_X5_18 : zFl RX5 18 5 2 := Or.inl (zT_in 193 (by decide +kernel) (by decide +kernel))
theorem fl_X5_21 : zFl RX5 21 5 3 := Or.inl (zT_in 195 (by decide +kernel) (by decide +kernel))
theorem fl_X6_9 : zFl RX6 9 6 2 := Or.inl (zT_in 162 (by decide +kernel) (by decide +kernel))
theorem fl_X6_15 : zFl RX6 15 6 3 := Or.inl (zT_in 163 (by decide +kernel) (by decide +kernel))
theorem fl_X6_20 : zFl RX6 20 6 4 := Or.inl (zT_in 164 (by decide +kernel) (by decide +kernel))
theorem fl_X6_23 : zFl RX6 23 6 5 := Or.inl (zT_in 168 (by decide +kernel) (by decide +kernel))
theorem fl_X6_26 : zFl RX6 26 6 0 := Or.inl (zT_in 156 (by decide +kernel) (by decide +kernel))
theorem fl_X6_30 : zFl RX6 30 6 1 := Or.inl (zT_in 159 (by decide +kernel) (by decide +kernel))
theorem fl_X7_9 : zFl RX7 9 7 0 := Or.inl (zT_in 115 (by decide +kernel) (by decide +kernel))
theorem fl_X7_15 : zFl RX7 15 7 1 := Or.inl (zT_in 116 (by decide +kernel) (by decide +kernel))
theorem fl_X8_12 : zFl RX8 12 8 0 := Or.inl (zT_in 241 (by decide +kernel) (by decide +kernel))
theorem fl_X8_21 : zFl RX8 21 8 1 := Or.inl (zT_in 245 (by decide +kernel) (by decide +kernel))
theorem fl_X8_28 : zFl RX8 28 8 2 := Or.inl (zT_in 250 (by decide +kernel) (by decide +kernel))
theorem fl_X8_40 : zFl RX8 40 8 3 := Or.inl (zT_in 255 (by decide +kernel) (by decide +kernel))
theorem fl_X8_43 : zFl RX8 43 8 4 := Or.inl (zT_in 258 (by decide +kernel) (by decide +kernel))
theorem fl_X8_46 : zFl RX8 46 8 5 := Or.inl (zT_in 261 (by decide +kernel) (by decide +kernel))
theorem fl_X9_9 : zFl RX9 9 9 0 := Or.inl (zT_in 283 (by decide +kernel) (by decide +kernel))
theorem fl_X9_15 : zFl RX9 15 9 1 := Or.inl (zT_in 284 (by decide +kernel) (by decide +kernel))
theorem fl_X9_19 : zFl RX9 19 9 2 := Or.inl (zT_in 285 (by decide +kernel) (by decide +kernel))
theorem fl_X9_23 : zFl RX9 23 9 3 := Or.inl (zT_in 287 (by decide +kernel) (by decide +kernel))
theorem fl_X9_26 : zFl RX9 26 9 4 := Or.inl (zT_in 289 (by decide +kernel) (by decide +kernel))
theorem fl_X9_29 : zFl RX9 29 9 5 := Or.inl (zT_in 291 (by decide +kernel) (by decide +kernel))
theorem fl_X9_61 : zFl RX9 61 9 6 := Or.inl (zT_in 293 (by decide +kernel) (by decide +kernel))
theorem fl_X10_9 : zFl RX10 9 10 0 := Or.inl (zT_in 214 (by decide +kernel) (by decide +kernel))
theorem fl_X10_15 : zFl RX10 15 10 1 := Or.inl (zT_in 216 (by decide +kernel) (by decide +kernel))
theorem fl_X10_18 : zFl RX10 18 10 2 := Or.inl (zT_in 219 (by decide +kernel) (by decide +kernel))
theorem fl_X10_21 : zFl RX10 21 10 3 := Or.inl (zT_in 222 (by decide +kernel) (by decide +kernel))
theorem fl_X10_24 : zFl RX10 24 10 4 := Or.inl (zT_in 226 (by decide +kernel) (by decide +kernel))
theorem fl_X12_7 : zFl RX12 7 12 0 := Or.inl (zT_in 893 (by decide +kernel) (by decide +kernel))
theorem fl_X12_13 : zFl RX12 13 12 2 := Or.inl (zT_in 895 (by decide +kernel) (by decide +kernel))
theorem fl_X12_17 : zFl RX12 17 12 3 := Or.inl (zT_in 896 (by decide +kernel) (by decide +kernel))
theorem fl_X12_20 : zFl RX12 20 12 4 := Or.inl (zT_in 897 (by decide +kernel) (by decide +kernel))
theorem fl_X12_23 : zFl RX12 23 12 5 := Or.inl (zT_in 898 (by decide +kernel) (by decide +kernel))
theorem fl_X12_26 : zFl RX12 26 12 6 := Or.inl (zT_in 899 (by decide +kernel) (by decide +kernel))
theorem fl_X12_29 : zFl RX12 29 12 7 := Or.inl (zT_in 900 (by decide +kernel) (by decide +kernel))
theorem fl_X12_32 : zFl RX12 32 12 8 := Or.inl (zT_in 901 (by decide +kernel) (by decide +kernel))
theorem fl_X12_35 : zFl RX12 35 12 9 := Or.inl (zT_in 902 (by decide +kernel) (by decide +kernel))
theorem fl_X12_38 : zFl RX12 38 12 10 := Or.inl (zT_in 903 (by decide +kernel) (by decide +kernel))
theorem fl_X12_41 : zFl RX12 41 12 11 := Or.inl (zT_in 904 (by decide +kernel) (by decide +kernel))
theorem fl_X12_44 : zFl RX12 44 12 12 := Or.inl (zT_in 905 (by decide +kernel) (by decide +kernel))
theorem fl_X12_47 : zFl RX12 47 12 17 := Or.inl (zT_in 910 (by decide +kernel) (by decide +kernel))
theorem fl_X12_50 : zFl RX12 50 12 20 := Or.inl (zT_in 913 (by decide +kernel) (by decide +kernel))
theorem fl_X12_53 : zFl RX12 53 12 21 := Or.inl (zT_in 914 (by decide +kernel) (by decide +kernel))
theorem fl_X12_56 : zFl RX12 56 12 22 := Or.inl (zT_in 915 (by decide +kernel) (by decide +kernel))
theorem fl_X12_59 : zFl RX12 59 12 28 := Or.inl (zT_in 921 (by decide +kernel) (by decide +kernel))
theorem fl_X12_62 : zFl RX12 62 12 29 := Or.inl (zT_in 922 (by decide +kernel) (by decide +kernel))
theorem fl_X12_65 : zFl RX12 65 12 30 := Or.inl (zT_in 923 (by decide +kernel) (by decide +kernel))
theorem fl_X12_68 : zFl RX12 68 12 31 := Or.inl (zT_in 924 (by decide +kernel) (by decide +kernel))
theorem fl_X12_71 : zFl RX12 71 12 32 := Or.inl (zT_in 925 (by decide +kernel) (by decide +kernel))
theorem fl_X12_90 : zFl RX12 90 12 13 := Or.inl (zT_in 906 (by decide +kernel) (by decide +kernel))
theorem fl_X12_98 : zFl RX12 98 12 1 := Or.inl (zT_in 894 (by decide +kernel) (by decide +kernel))
theorem fl_X12_101 : zFl RX12 101 12 14 := Or.inl (zT_in 907 (by decide +kernel) (by decide +kernel))
theorem fl_X12_108 : zFl RX12 108 12 15 := Or.inl (zT_in 908 (by decide +kernel) (by decide +kernel))
theorem fl_X12_120 : zFl RX12 120 12 16 := Or.inl (zT_in 909 (by decide +kernel) (by decide +kernel))
theorem fl_X12_129 : zFl RX12 129 12 18 := Or.inl (zT_in 911 (by decide +kernel) (by decide +kernel))
theorem fl_X12_132 : zFl RX12 132 12 19 := Or.inl (zT_in 912 (by decide +kernel) (by decide +kernel))
theorem fl_X12_135 : zFl RX12 135 12 33 := Or.inl (zT_in 926 (by decide +kernel) (by decide +kernel))
theorem fl_X12_170 : zFl RX12 170 12 23 := Or.inl (zT_in 916 (by decide +kernel) (by decide +kernel))
theorem fl_X12_173 : zFl RX12 173 12 24 := Or.inl (zT_in 917 (by decide +kernel) (by decide +kernel))
theorem fl_X12_176 : zFl RX12 176 12 25 := Or.inl (zT_in 918 (by decide +kernel) (by decide +kernel))
theorem fl_X12_179 : zFl RX12 179 12 26 := Or.inl (zT_in 919 (by decide +kernel) (by decide +kernel))
theorem fl_X12_186 : zFl RX12 186 12 27 := Or.inl (zT_in 920 (by decide +kernel) (by decide +kernel))
theorem fl_X11_109 : zFl RX11 109 7 1 := Or.inr ⟨RX11, zNl_in 117 (by decide +kernel) (by decide +kernel)⟩
theorem fl_X11_116 : zFl RX11 116 8 2 := Or.inr ⟨RX11, zNl_in 253 (by decide +kernel) (by decide +kernel)⟩
theorem fl_X11_120 : zFl RX11 120 10 4 := Or.inr ⟨RX11, zNl_in 228 (by decide +kernel) (by decide +kernel)⟩
theorem fl_X11_125 : zFl RX11 125 8 0 := Or.inr ⟨RX11, zNl_in 243 (by decide +kernel) (by decide +kernel)⟩
theorem fl_X11_129 : zFl RX11 129 6 5 := Or.inr ⟨RX11, zNl_in 169 (by decide +kernel) (by decide +kernel)⟩
theorem fl_X11_141 : zFl RX11 141 3 2 := Or.inr ⟨RX11, zNl_in 355 (by decide +kernel) (by decide +kernel)⟩
theorem fl_X11_142 : zFl RX11 142 4 3 := Or.inr ⟨RX11, zNl_in 373 (by decide +kernel) (by decide +kernel)⟩
theorem fl_X11_143 : zFl RX11 143 6 0 := Or.inr ⟨RX11, zNl_in 157 (by decide +kernel) (by decide +kernel)⟩
theorem fl_X11_150 : zFl RX11 150 6 4 := Or.inr ⟨RX11, zNl_in 166 (by decide +kernel) (by decide +kernel)⟩
theorem fl_X11_156 : zFl RX11 156 8 1 := Or.inr ⟨RX11, zNl_in 249 (by decide +kernel) (by decide +kernel)⟩
theorem fl_X11_159 : zFl RX11 159 5 0 := Or.inr ⟨RX11, zNl_in 190 (by decide +kernel) (by decide +kernel)⟩
theorem fl_X11_161 : zFl RX11 161 5 1 := Or.inr ⟨RX11, zNl_in 192 (by decide +kernel) (by decide +kernel)⟩
theorem fl_X11_164 : zFl RX11 164 5 2 := Or.inr ⟨RX11, zNl_in 194 (by decide +kernel) (by decide +kernel)⟩
theorem fl_X11_170 : zFl RX11 170 10 0 := Or.inr ⟨RX11, zNl_in 215 (by decide +kernel) (by decide +kernel)⟩
theorem fl_X11_173 : zFl RX11 173 10 1 := Or.inr ⟨RX11, zNl_in 218 (by decide +kernel) (by decide +kernel)⟩
theorem fl_X11_176 : zFl RX11 176 10 2 := Or.inr ⟨RX11, zNl_in 221 (by decide +kernel) (by decide +kernel)⟩
theorem fl_X11_177 : zFl RX11 177 10 3 := Or.inr ⟨RX11, zNl_in 225 (by decide +kernel) (by decide +kernel)⟩
theorem fl_X11_191 : zFl RX11 191 9 2 := Or.inr ⟨RX11, zNl_in 286 (by decide +kernel) (by decide +kernel)⟩
theorem fl_X11_194 : zFl RX11 194 9 3 := Or.inr ⟨RX11, zNl_in 288 (by decide +kernel) (by decide +kernel)⟩
theorem fl_X11_197 : zFl RX11 197 9 4 := Or.inr ⟨RX11, zNl_in 290 (by decide +kernel) (by decide +kernel)⟩
theorem fl_X11_200 : zFl RX11 200 9 5 := Or.inr ⟨RX11, zNl_in 292 (by decide +kernel) (by decide +kernel)⟩
theorem fl_X11_203 : zFl RX11 203 9 6 := Or.inr ⟨RX11, zNl_in 294 (by decide +kernel) (by decide +kernel)⟩
theorem fl_X11_214 : zFl RX11 214 5 3 := Or.inr ⟨RX11, zNl_in 198 (by decide +kernel) (by decide +kernel)⟩
theorem fl_X11_226 : zFl RX11 226 0 6 := Or.inr ⟨RX11, zNl_in 326 (by decide +kernel) (by decide +kernel)⟩
theorem fl_X11_275 : zFl RX11 275 6 1 := Or.inr ⟨RX11, zNl_in 161 (by decide +kernel) (by decide +kernel)⟩
theorem fl_X0_34 : zFl RX0 34 8 1 := Or.inr ⟨RX11, zNl_in 247 (by decide +kernel) (by decide +kernel)⟩
theorem fl_X0_50 : zFl RX0 50 8 2 := Or.inr ⟨RX11, zNl_in 252 (by decide +kernel) (by decide +kernel)⟩
theorem fl_X0_54 : zFl RX0 54 10 3 := Or.inr ⟨RX11, zNl_in 224 (by decide +kernel) (by decide +kernel)⟩
theorem fl_X2_28 : zFl RX2 28 7 1 := Or.inr ⟨RX11, zNl_in 118 (by decide +kernel) (by decide +kernel)⟩
theorem fl_X2_65 : zFl RX2 65 8 0 := Or.inr ⟨RX11, zNl_in 244 (by decide +kernel) (by decide +kernel)⟩
theorem fl_X2_69 : zFl RX2 69 6 0 := Or.inr ⟨RX11, zNl_in 158 (by decide +kernel) (by decide +kernel)⟩
theorem fl_X2_74 : zFl RX2 74 6 1 := Or.inr ⟨RX11, zNl_in 160 (by decide +kernel) (by decide +kernel)⟩
theorem fl_X2_81 : zFl RX2 81 6 4 := Or.inr ⟨RX11, zNl_in 167 (by decide +kernel) (by decide +kernel)⟩
theorem fl_X2_89 : zFl RX2 89 8 1 := Or.inr ⟨RX11, zNl_in 248 (by decide +kernel) (by decide +kernel)⟩
theorem fl_X2_93 : zFl RX2 93 5 3 := Or.inr ⟨RX11, zNl_in 197 (by decide +kernel) (by decide +kernel)⟩
theorem fl_X2_100 : zFl RX2 100 8 2 := Or.inr ⟨RX11, zNl_in 254 (by decide +kernel) (by decide +kernel)⟩
theorem fl_X2_104 : zFl RX2 104 10 4 := Or.inr ⟨RX11, zNl_in 229 (by decide +kernel) (by decide +kernel)⟩
theorem fl_X2_108 : zFl RX2 108 8 3 := Or.inr ⟨RX11, zNl_in 257 (by decide +kernel) (by decide +kernel)⟩
theorem fl_X2_111 : zFl RX2 111 8 4 := Or.inr ⟨RX11, zNl_in 260 (by decide +kernel) (by decide +kernel)⟩
theorem fl_X2_114 : zFl RX2 114 8 5 := Or.inr ⟨RX11, zNl_in 263 (by decide +kernel) (by decide +kernel)⟩
theorem fl_X3_27 : zFl RX3 27 8 1 := Or.inr ⟨RX11, zNl_in 246 (by decide +kernel) (by decide +kernel)⟩
theorem fl_X3_36 : zFl RX3 36 8 2 := Or.inr ⟨RX11, zNl_in 251 (by decide +kernel) (by decide +kernel)⟩
theorem fl_X3_40 : zFl RX3 40 10 3 := Or.inr ⟨RX11, zNl_in 223 (by decide +kernel) (by decide +kernel)⟩
theorem fl_X8_35 : zFl RX8 35 5 3 := Or.inr ⟨RX11, zNl_in 196 (by decide +kernel) (by decide +kernel)⟩
theorem fl_X8_39 : zFl RX8 39 10 4 := Or.inr ⟨RX11, zNl_in 227 (by decide +kernel) (by decide +kernel)⟩
theorem fl_X8_49 : zFl RX8 49 10 1 := Or.inr ⟨RX11, zNl_in 217 (by decide +kernel) (by decide +kernel)⟩
theorem fl_X8_53 : zFl RX8 53 10 2 := Or.inr ⟨RX11, zNl_in 220 (by decide +kernel) (by decide +kernel)⟩
theorem fl_X9_32 : zFl RX9 32 8 0 := Or.inr ⟨RX11, zNl_in 242 (by decide +kernel) (by decide +kernel)⟩
theorem fl_X9_42 : zFl RX9 42 8 5 := Or.inr ⟨RX11, zNl_in 262 (by decide +kernel) (by decide +kernel)⟩
theorem fl_X9_45 : zFl RX9 45 6 4 := Or.inr ⟨RX11, zNl_in 165 (by decide +kernel) (by decide +kernel)⟩
theorem fl_X9_55 : zFl RX9 55 8 3 := Or.inr ⟨RX11, zNl_in 256 (by decide +kernel) (by decide +kernel)⟩
theorem fl_X9_58 : zFl RX9 58 8 4 := Or.inr ⟨RX11, zNl_in 259 (by decide +kernel) (by decide +kernel)⟩
theorem ml_X11_89 : zMl RX11 89 yJ0_length_8abf5 := Or.inl (zT_in 398 (by decide +kernel) (by decide +kernel))
theorem ml_X11_95 : zMl RX11 95 yJ0_charAt_5068e := Or.inl (zT_in 408 (by decide +kernel) (by decide +kernel))
theorem ml_X11_103 : zMl RX11 103 yX11_lay := Or.inl (zT_in 450 (by decide +kernel) (by decide +kernel))
theorem ml_X11_106 : zMl RX11 106 yX11_wipe := Or.inl (zT_in 536 (by decide +kernel) (by decide +kernel))
theorem ml_X11_146 : zMl RX11 146 yX11_isCorner := Or.inl (zT_in 595 (by decide +kernel) (by decide +kernel))
theorem ml_X11_153 : zMl RX11 153 yX11_isSign := Or.inl (zT_in 608 (by decide +kernel) (by decide +kernel))
theorem ml_X11_167 : zMl RX11 167 yX11_isWalker := Or.inl (zT_in 616 (by decide +kernel) (by decide +kernel))
theorem ml_X11_180 : zMl RX11 180 yX11_isWithin := Or.inl (zT_in 599 (by decide +kernel) (by decide +kernel))
theorem ml_X11_184 : zMl RX11 184 yX11_send := Or.inl (zT_in 624 (by decide +kernel) (by decide +kernel))
theorem ml_X11_210 : zMl RX11 210 yX11_taxBy := Or.inl (zT_in 685 (by decide +kernel) (by decide +kernel))
theorem ml_X11_243 : zMl RX11 243 yX11_offerLures := Or.inl (zT_in 744 (by decide +kernel) (by decide +kernel))
theorem ml_X11_258 : zMl RX11 258 yJ7_fill_53178 := Or.inl (zT_in 772 (by decide +kernel) (by decide +kernel))
theorem ml_X11_283 : zMl RX11 283 yX11_taxOfSet := Or.inl (zT_in 810 (by decide +kernel) (by decide +kernel))
theorem ml_X11_292 : zMl RX11 292 yX11_weightOfTurned := Or.inl (zT_in 819 (by decide +kernel) (by decide +kernel))
theorem ml_X11_296 : zMl RX11 296 yX11_turnSigns := Or.inl (zT_in 822 (by decide +kernel) (by decide +kernel))
theorem ml_X11_299 : zMl RX11 299 yX11_commonDivisor := Or.inl (zT_in 827 (by decide +kernel) (by decide +kernel))
theorem ml_X11_305 : zMl RX11 305 yX11_drawOf := Or.inl (zT_in 835 (by decide +kernel) (by decide +kernel))
theorem ml_X2_37 : zMl RX2 37 yX2_readNumbers := Or.inl (zT_in 473 (by decide +kernel) (by decide +kernel))
theorem ml_X2_41 : zMl RX2 41 yX2_accept := Or.inl (zT_in 481 (by decide +kernel) (by decide +kernel))
theorem ml_X2_45 : zMl RX2 45 yX2_readNumber := Or.inl (zT_in 477 (by decide +kernel) (by decide +kernel))
theorem ml_X2_49 : zMl RX2 49 yX2_acceptCorners := Or.inl (zT_in 485 (by decide +kernel) (by decide +kernel))
theorem ml_X2_53 : zMl RX2 53 yX2_acceptStreet := Or.inl (zT_in 489 (by decide +kernel) (by decide +kernel))
theorem ml_X2_56 : zMl RX2 56 yX2_acceptSign := Or.inl (zT_in 500 (by decide +kernel) (by decide +kernel))
theorem ml_X2_59 : zMl RX2 59 yX2_acceptWalker := Or.inl (zT_in 512 (by decide +kernel) (by decide +kernel))
theorem ml_X2_62 : zMl RX2 62 yX2_acceptRates := Or.inl (zT_in 520 (by decide +kernel) (by decide +kernel))
theorem ml_X5_25 : zMl RX5 25 yX5_move := Or.inl (zT_in 508 (by decide +kernel) (by decide +kernel))
theorem ml_X6_33 : zMl RX6 33 yJ7_fill_53178 := Or.inl (zT_in 466 (by decide +kernel) (by decide +kernel))
theorem ml_X6_39 : zMl RX6 39 yX6_shortenBy := Or.inl (zT_in 528 (by decide +kernel) (by decide +kernel))
theorem ml_X6_43 : zMl RX6 43 yX6_leadsOn := Or.inl (zT_in 639 (by decide +kernel) (by decide +kernel))
theorem ml_X9_38 : zMl RX9 38 yX9_choose := Or.inl (zT_in 632 (by decide +kernel) (by decide +kernel))
theorem ml_X9_74 : zMl RX9 74 yX9_chooseBySign := Or.inl (zT_in 647 (by decide +kernel) (by decide +kernel))
theorem ml_L_9 : zMl RL 9 yX11_init := Or.inl (zT_in 103 (by decide +kernel) (by decide +kernel))
theorem ml_L_12 : zMl RL 12 yX12_init := Or.inl (zT_in 865 (by decide +kernel) (by decide +kernel))
theorem ml_L_13 : zMl RL 13 yX11_write := Or.inl (zT_in 581 (by decide +kernel) (by decide +kernel))
theorem ml_L_17 : zMl RL 17 yX12_write := Or.inl (zT_in 996 (by decide +kernel) (by decide +kernel))
theorem ml_L_18 : zMl RL 18 yX11_wipe := Or.inl (zT_in 585 (by decide +kernel) (by decide +kernel))
theorem ml_L_22 : zMl RL 22 yX12_wipe := Or.inl (zT_in 1003 (by decide +kernel) (by decide +kernel))
theorem ml_L_23 : zMl RL 23 yX11_fault := Or.inl (zT_in 586 (by decide +kernel) (by decide +kernel))
theorem ml_L_26 : zMl RL 26 yX12_fault := Or.inl (zT_in 1007 (by decide +kernel) (by decide +kernel))
theorem ml_L_27 : zMl RL 27 yX11_lay := Or.inl (zT_in 590 (by decide +kernel) (by decide +kernel))
theorem ml_L_30 : zMl RL 30 yX12_lay := Or.inl (zT_in 1031 (by decide +kernel) (by decide +kernel))
theorem ml_L_31 : zMl RL 31 yX11_far := Or.inl (zT_in 591 (by decide +kernel) (by decide +kernel))
theorem ml_L_35 : zMl RL 35 yX12_far := Or.inl (zT_in 1036 (by decide +kernel) (by decide +kernel))
theorem ml_L_36 : zMl RL 36 yX11_street := Or.inl (zT_in 600 (by decide +kernel) (by decide +kernel))
theorem ml_L_39 : zMl RL 39 yX12_street := Or.inl (zT_in 1044 (by decide +kernel) (by decide +kernel))
theorem ml_L_40 : zMl RL 40 yX11_sign := Or.inl (zT_in 604 (by decide +kernel) (by decide +kernel))
theorem ml_L_43 : zMl RL 43 yX12_sign := Or.inl (zT_in 1048 (by decide +kernel) (by decide +kernel))
theorem ml_L_44 : zMl RL 44 yX11_walker := Or.inl (zT_in 612 (by decide +kernel) (by decide +kernel))
theorem ml_L_47 : zMl RL 47 yX12_walker := Or.inl (zT_in 1056 (by decide +kernel) (by decide +kernel))
theorem ml_L_48 : zMl RL 48 yX11_walk := Or.inl (zT_in 620 (by decide +kernel) (by decide +kernel))
theorem ml_L_51 : zMl RL 51 yX12_walk := Or.inl (zT_in 1064 (by decide +kernel) (by decide +kernel))
theorem ml_L_52 : zMl RL 52 yX11_way := Or.inl (zT_in 669 (by decide +kernel) (by decide +kernel))
theorem ml_L_55 : zMl RL 55 yX12_way := Or.inl (zT_in 1096 (by decide +kernel) (by decide +kernel))
theorem ml_L_56 : zMl RL 56 yX11_round := Or.inl (zT_in 673 (by decide +kernel) (by decide +kernel))
theorem ml_L_59 : zMl RL 59 yX12_round := Or.inl (zT_in 1100 (by decide +kernel) (by decide +kernel))
theorem ml_L_60 : zMl RL 60 yX11_tax := Or.inl (zT_in 681 (by decide +kernel) (by decide +kernel))
theorem ml_L_63 : zMl RL 63 yX12_tax := Or.inl (zT_in 1108 (by decide +kernel) (by decide +kernel))
theorem ml_L_64 : zMl RL 64 yX11_put := Or.inl (zT_in 689 (by decide +kernel) (by decide +kernel))
theorem ml_L_68 : zMl RL 68 yX12_put := Or.inl (zT_in 1116 (by decide +kernel) (by decide +kernel))
theorem ml_L_69 : zMl RL 69 yX11_take := Or.inl (zT_in 698 (by decide +kernel) (by decide +kernel))
theorem ml_L_72 : zMl RL 72 yX12_take := Or.inl (zT_in 1132 (by decide +kernel) (by decide +kernel))
theorem ml_L_73 : zMl RL 73 yX11_tell := Or.inl (zT_in 706 (by decide +kernel) (by decide +kernel))
theorem ml_L_76 : zMl RL 76 yX12_tell := Or.inl (zT_in 1140 (by decide +kernel) (by decide +kernel))
theorem ml_L_77 : zMl RL 77 yX11_undo := Or.inl (zT_in 710 (by decide +kernel) (by decide +kernel))
theorem ml_L_80 : zMl RL 80 yX12_undo := Or.inl (zT_in 1144 (by decide +kernel) (by decide +kernel))
theorem ml_L_81 : zMl RL 81 yX11_lies := Or.inl (zT_in 720 (by decide +kernel) (by decide +kernel))
theorem ml_L_84 : zMl RL 84 yX12_lies := Or.inl (zT_in 1148 (by decide +kernel) (by decide +kernel))
theorem ml_L_85 : zMl RL 85 yX11_lure := Or.inl (zT_in 725 (by decide +kernel) (by decide +kernel))
theorem ml_L_88 : zMl RL 88 yX12_lure := Or.inl (zT_in 1152 (by decide +kernel) (by decide +kernel))
theorem ml_L_89 : zMl RL 89 yX11_mend := Or.inl (zT_in 756 (by decide +kernel) (by decide +kernel))
theorem ml_L_92 : zMl RL 92 yX12_mend := Or.inl (zT_in 1156 (by decide +kernel) (by decide +kernel))
theorem ml_L_93 : zMl RL 93 yX11_best := Or.inl (zT_in 764 (by decide +kernel) (by decide +kernel))
theorem ml_L_96 : zMl RL 96 yX12_best := Or.inl (zT_in 1160 (by decide +kernel) (by decide +kernel))
theorem ml_L_97 : zMl RL 97 yX11_watch := Or.inl (zT_in 768 (by decide +kernel) (by decide +kernel))
theorem ml_L_100 : zMl RL 100 yX12_watch := Or.inl (zT_in 1164 (by decide +kernel) (by decide +kernel))
theorem ml_L_101 : zMl RL 101 yX11_missed := Or.inl (zT_in 777 (by decide +kernel) (by decide +kernel))
theorem ml_L_104 : zMl RL 104 yX12_missed := Or.inl (zT_in 1168 (by decide +kernel) (by decide +kernel))
theorem ml_L_105 : zMl RL 105 yX11_seen := Or.inl (zT_in 785 (by decide +kernel) (by decide +kernel))
theorem ml_L_108 : zMl RL 108 yX12_seen := Or.inl (zT_in 1176 (by decide +kernel) (by decide +kernel))
theorem ml_L_109 : zMl RL 109 yX11_forget := Or.inl (zT_in 793 (by decide +kernel) (by decide +kernel))
theorem ml_L_112 : zMl RL 112 yX12_forget := Or.inl (zT_in 1180 (by decide +kernel) (by decide +kernel))
theorem ml_L_113 : zMl RL 113 yX11_kinds := Or.inl (zT_in 797 (by decide +kernel) (by decide +kernel))
theorem ml_L_116 : zMl RL 116 yX12_kinds := Or.inl (zT_in 1184 (by decide +kernel) (by decide +kernel))
theorem ml_L_117 : zMl RL 117 yX11_paid := Or.inl (zT_in 806 (by decide +kernel) (by decide +kernel))
theorem ml_L_120 : zMl RL 120 yX12_paid := Or.inl (zT_in 1188 (by decide +kernel) (by decide +kernel))
theorem ml_L_121 : zMl RL 121 yX11_mean := Or.inl (zT_in 814 (by decide +kernel) (by decide +kernel))
theorem ml_L_124 : zMl RL 124 yX12_mean := Or.inl (zT_in 1192 (by decide +kernel) (by decide +kernel))
theorem ml_L_125 : zMl RL 125 yX11_day := Or.inl (zT_in 831 (by decide +kernel) (by decide +kernel))
theorem ml_L_128 : zMl RL 128 yX12_day := Or.inl (zT_in 1200 (by decide +kernel) (by decide +kernel))
theorem ml_L_129 : zMl RL 129 yX11_keep := Or.inl (zT_in 841 (by decide +kernel) (by decide +kernel))
theorem ml_L_132 : zMl RL 132 yX12_keep := Or.inl (zT_in 1207 (by decide +kernel) (by decide +kernel))
theorem ml_L_133 : zMl RL 133 yX11_back := Or.inl (zT_in 851 (by decide +kernel) (by decide +kernel))
theorem ml_L_136 : zMl RL 136 yX12_back := Or.inl (zT_in 1211 (by decide +kernel) (by decide +kernel))
theorem ml_L_137 : zMl RL 137 yX11_count := Or.inl (zT_in 859 (by decide +kernel) (by decide +kernel))
theorem ml_L_140 : zMl RL 140 yX12_count := Or.inl (zT_in 1215 (by decide +kernel) (by decide +kernel))
theorem ml_X12_74 : zMl RX12 74 yX12_firstStreet := Or.inl (zT_in 869 (by decide +kernel) (by decide +kernel))
theorem ml_X12_78 : zMl RX12 78 yX12_firstSign := Or.inl (zT_in 873 (by decide +kernel) (by decide +kernel))
theorem ml_X12_81 : zMl RX12 81 yX12_firstWalker := Or.inl (zT_in 877 (by decide +kernel) (by decide +kernel))
theorem ml_X12_84 : zMl RX12 84 yX12_firstRates := Or.inl (zT_in 881 (by decide +kernel) (by decide +kernel))
theorem ml_X12_87 : zMl RX12 87 yX12_takeDraft := Or.inl (zT_in 885 (by decide +kernel) (by decide +kernel))
theorem ml_X12_94 : zMl RX12 94 yX12_in := Or.inl (zT_in 1000 (by decide +kernel) (by decide +kernel))
theorem ml_X12_104 : zMl RX12 104 yX12_here := Or.inl (zT_in 1015 (by decide +kernel) (by decide +kernel))
theorem ml_X12_112 : zMl RX12 112 yX12_number := Or.inl (zT_in 1019 (by decide +kernel) (by decide +kernel))
theorem ml_X12_116 : zMl RX12 116 yX12_corner := Or.inl (zT_in 1027 (by decide +kernel) (by decide +kernel))
theorem ml_X12_123 : zMl RX12 123 yX12_readStreet := Or.inl (zT_in 1023 (by decide +kernel) (by decide +kernel))
theorem ml_X12_126 : zMl RX12 126 yX12_readItem := Or.inl (zT_in 1011 (by decide +kernel) (by decide +kernel))
theorem ml_X12_138 : zMl RX12 138 yX12_measure := Or.inl (zT_in 889 (by decide +kernel) (by decide +kernel))
theorem ml_X12_142 : zMl RX12 142 yX12_fault := Or.inl (zT_in 1035 (by decide +kernel) (by decide +kernel))
theorem ml_X12_145 : zMl RX12 145 yX12_isCorner := Or.inl (zT_in 1040 (by decide +kernel) (by decide +kernel))
theorem ml_X12_149 : zMl RX12 149 yX12_isSign := Or.inl (zT_in 1052 (by decide +kernel) (by decide +kernel))
theorem ml_X12_152 : zMl RX12 152 yX12_isWalker := Or.inl (zT_in 1060 (by decide +kernel) (by decide +kernel))
theorem ml_X12_155 : zMl RX12 155 yX12_isOnWay := Or.inl (zT_in 1092 (by decide +kernel) (by decide +kernel))
theorem ml_X12_158 : zMl RX12 158 yX12_onFrom := Or.inl (zT_in 1084 (by decide +kernel) (by decide +kernel))
theorem ml_X12_162 : zMl RX12 162 yX12_strangerStep := Or.inl (zT_in 1080 (by decide +kernel) (by decide +kernel))
theorem ml_X12_166 : zMl RX12 166 yX12_nativeStep := Or.inl (zT_in 1088 (by decide +kernel) (by decide +kernel))
theorem ml_X12_182 : zMl RX12 182 yX12_nextOf := Or.inl (zT_in 1076 (by decide +kernel) (by decide +kernel))
theorem ml_X12_189 : zMl RX12 189 yX12_go := Or.inl (zT_in 1072 (by decide +kernel) (by decide +kernel))
theorem ml_X12_193 : zMl RX12 193 yX12_goAs := Or.inl (zT_in 1068 (by decide +kernel) (by decide +kernel))
theorem ml_X12_197 : zMl RX12 197 yX12_cameTo := Or.inl (zT_in 1104 (by decide +kernel) (by decide +kernel))
theorem ml_X12_200 : zMl RX12 200 yX12_taxBy := Or.inl (zT_in 1112 (by decide +kernel) (by decide +kernel))
theorem ml_X12_203 : zMl RX12 203 yX12_copy := Or.inl (zT_in 1124 (by decide +kernel) (by decide +kernel))
theorem ml_X12_206 : zMl RX12 206 yX12_know := Or.inl (zT_in 1120 (by decide +kernel) (by decide +kernel))
theorem ml_X12_209 : zMl RX12 209 yX12_putUp := Or.inl (zT_in 1128 (by decide +kernel) (by decide +kernel))
theorem ml_X12_213 : zMl RX12 213 yX12_takeDown := Or.inl (zT_in 1136 (by decide +kernel) (by decide +kernel))
theorem ml_X12_216 : zMl RX12 216 yX12_moreWithout := Or.inl (zT_in 1172 (by decide +kernel) (by decide +kernel))
theorem ml_X12_219 : zMl RX12 219 yX12_turned := Or.inl (zT_in 1196 (by decide +kernel) (by decide +kernel))
theorem ml_J0_335 : zMl RJ0 335 yJ0_coder_7d493 := Or.inl (zT_in 402 (by decide +kernel) (by decide +kernel))
theorem ml_J0_492 : zMl RJ0 492 yJ0_isLatin1_aae02 := Or.inl (zT_in 412 (by decide +kernel) (by decide +kernel))
theorem ml_J0_495 : zMl RJ0 495 yJ1_charAt_3b067 := Or.inl (zT_in 416 (by decide +kernel) (by decide +kernel))
theorem ml_J1_9 : zMl RJ1 9 yJ0_checkIndex_df160 := Or.inl (zT_in 419 (by decide +kernel) (by decide +kernel))
theorem ml_X11_9 : zMl RX11 9 yX7_init := Or.inr ⟨RX11, zNl_in 111 (by decide +kernel) (by decide +kernel)⟩
theorem ml_X11_18 : zMl RX11 18 yX2_init := Or.inr ⟨RX11, zNl_in 127 (by decide +kernel) (by decide +kernel)⟩
theorem ml_X11_25 : zMl RX11 25 yX8_init := Or.inr ⟨RX11, zNl_in 144 (by decide +kernel) (by decide +kernel)⟩
theorem ml_X11_35 : zMl RX11 35 yX9_init := Or.inr ⟨RX11, zNl_in 279 (by decide +kernel) (by decide +kernel)⟩
theorem ml_X11_42 : zMl RX11 42 yX5_init := Or.inr ⟨RX11, zNl_in 312 (by decide +kernel) (by decide +kernel)⟩
theorem ml_X11_49 : zMl RX11 49 yX0_init := Or.inr ⟨RX11, zNl_in 315 (by decide +kernel) (by decide +kernel)⟩
theorem ml_X11_56 : zMl RX11 56 yX3_init := Or.inr ⟨RX11, zNl_in 344 (by decide +kernel) (by decide +kernel)⟩
theorem ml_X11_63 : zMl RX11 63 yX4_init := Or.inr ⟨RX11, zNl_in 365 (by decide +kernel) (by decide +kernel)⟩
theorem ml_X11_70 : zMl RX11 70 yX1_init := Or.inr ⟨RX11, zNl_in 385 (by decide +kernel) (by decide +kernel)⟩
theorem ml_X11_99 : zMl RX11 99 yX7_append := Or.inr ⟨RX11, zNl_in 446 (by decide +kernel) (by decide +kernel)⟩
theorem ml_X11_112 : zMl RX11 112 yX2_readInto := Or.inr ⟨RX11, zNl_in 454 (by decide +kernel) (by decide +kernel)⟩
theorem ml_X11_134 : zMl RX11 134 yX6_measure := Or.inr ⟨RX11, zNl_in 524 (by decide +kernel) (by decide +kernel)⟩
theorem ml_X11_138 : zMl RX11 138 yX0_clear := Or.inr ⟨RX11, zNl_in 532 (by decide +kernel) (by decide +kernel)⟩
theorem ml_X11_187 : zMl RX11 187 yX9_placeBehind := Or.inr ⟨RX11, zNl_in 659 (by decide +kernel) (by decide +kernel)⟩
theorem ml_X11_207 : zMl RX11 207 yX9_firstRepeat := Or.inr ⟨RX11, zNl_in 677 (by decide +kernel) (by decide +kernel)⟩
theorem ml_X11_215 : zMl RX11 215 yX0_note := Or.inr ⟨RX11, zNl_in 693 (by decide +kernel) (by decide +kernel)⟩
theorem ml_X11_219 : zMl RX11 219 yX5_insert := Or.inr ⟨RX11, zNl_in 697 (by decide +kernel) (by decide +kernel)⟩
theorem ml_X11_223 : zMl RX11 223 yX5_remove := Or.inr ⟨RX11, zNl_in 702 (by decide +kernel) (by decide +kernel)⟩
theorem ml_X11_227 : zMl RX11 227 yX0_revertLatest := Or.inr ⟨RX11, zNl_in 714 (by decide +kernel) (by decide +kernel)⟩
theorem ml_X11_231 : zMl RX11 231 yX6_leadsOn := Or.inr ⟨RX11, zNl_in 724 (by decide +kernel) (by decide +kernel)⟩
theorem ml_X11_235 : zMl RX11 235 yX1_clear := Or.inr ⟨RX11, zNl_in 729 (by decide +kernel) (by decide +kernel)⟩
theorem ml_X11_236 : zMl RX11 236 yX5_copyFrom := Or.inr ⟨RX11, zNl_in 733 (by decide +kernel) (by decide +kernel)⟩
theorem ml_X11_240 : zMl RX11 240 yX10_anyStrangerTo := Or.inr ⟨RX11, zNl_in 740 (by decide +kernel) (by decide +kernel)⟩
theorem ml_X11_247 : zMl RX11 247 yX1_answer := Or.inr ⟨RX11, zNl_in 752 (by decide +kernel) (by decide +kernel)⟩
theorem ml_X11_250 : zMl RX11 250 yX1_offerLeast := Or.inr ⟨RX11, zNl_in 760 (by decide +kernel) (by decide +kernel)⟩
theorem ml_X11_254 : zMl RX11 254 yX9_make := Or.inr ⟨RX11, zNl_in 628 (by decide +kernel) (by decide +kernel)⟩
theorem ml_X11_264 : zMl RX11 264 yX9_tallyWrong := Or.inr ⟨RX11, zNl_in 773 (by decide +kernel) (by decide +kernel)⟩
theorem ml_X11_268 : zMl RX11 268 yX1_offerMost := Or.inr ⟨RX11, zNl_in 748 (by decide +kernel) (by decide +kernel)⟩
theorem ml_X11_271 : zMl RX11 271 yX8_minutesToAims := Or.inr ⟨RX11, zNl_in 781 (by decide +kernel) (by decide +kernel)⟩
theorem ml_X11_276 : zMl RX11 276 yX4_add := Or.inr ⟨RX11, zNl_in 789 (by decide +kernel) (by decide +kernel)⟩
theorem ml_X11_279 : zMl RX11 279 yX4_fit := Or.inr ⟨RX11, zNl_in 801 (by decide +kernel) (by decide +kernel)⟩
theorem ml_X11_308 : zMl RX11 308 yX3_store := Or.inr ⟨RX11, zNl_in 845 (by decide +kernel) (by decide +kernel)⟩
theorem ml_X11_311 : zMl RX11 311 yX3_restoreLast := Or.inr ⟨RX11, zNl_in 855 (by decide +kernel) (by decide +kernel)⟩
theorem ml_X11_314 : zMl RX11 314 yX6_firstBut := Or.inr ⟨RX11, zNl_in 826 (by decide +kernel) (by decide +kernel)⟩
theorem ml_X0_40 : zMl RX0 40 yX5_remove := Or.inr ⟨RX11, zNl_in 718 (by decide +kernel) (by decide +kernel)⟩
theorem ml_X0_46 : zMl RX0 46 yX5_insert := Or.inr ⟨RX11, zNl_in 719 (by decide +kernel) (by decide +kernel)⟩
theorem ml_X2_15 : zMl RX2 15 yX8_clear := Or.inr ⟨RX11, zNl_in 458 (by decide +kernel) (by decide +kernel)⟩
theorem ml_X2_33 : zMl RX2 33 yX7_letterAt := Or.inr ⟨RX11, zNl_in 469 (by decide +kernel) (by decide +kernel)⟩
theorem ml_X2_77 : zMl RX2 77 yX11_isWithin := Or.inr ⟨RX11, zNl_in 493 (by decide +kernel) (by decide +kernel)⟩
theorem ml_X2_85 : zMl RX2 85 yX6_add := Or.inr ⟨RX11, zNl_in 496 (by decide +kernel) (by decide +kernel)⟩
theorem ml_X2_96 : zMl RX2 96 yX5_insert := Or.inr ⟨RX11, zNl_in 504 (by decide +kernel) (by decide +kernel)⟩
theorem ml_X2_107 : zMl RX2 107 yX10_add := Or.inr ⟨RX11, zNl_in 516 (by decide +kernel) (by decide +kernel)⟩
theorem ml_X3_22 : zMl RX3 22 yX5_init := Or.inr ⟨RX11, zNl_in 351 (by decide +kernel) (by decide +kernel)⟩
theorem ml_X3_32 : zMl RX3 32 yX5_copyFrom := Or.inr ⟨RX11, zNl_in 849 (by decide +kernel) (by decide +kernel)⟩
theorem ml_X4_25 : zMl RX4 25 yX9_placeBehind := Or.inr ⟨RX11, zNl_in 805 (by decide +kernel) (by decide +kernel)⟩
theorem ml_X8_11 : zMl RX8 11 yX6_init := Or.inr ⟨RX11, zNl_in 150 (by decide +kernel) (by decide +kernel)⟩
theorem ml_X8_20 : zMl RX8 20 yX5_init := Or.inr ⟨RX11, zNl_in 185 (by decide +kernel) (by decide +kernel)⟩
theorem ml_X8_27 : zMl RX8 27 yX10_init := Or.inr ⟨RX11, zNl_in 210 (by decide +kernel) (by decide +kernel)⟩
theorem ml_X8_32 : zMl RX8 32 yX6_clear := Or.inr ⟨RX11, zNl_in 462 (by decide +kernel) (by decide +kernel)⟩
theorem ml_X9_51 : zMl RX9 51 yX6_leadsOn := Or.inr ⟨RX11, zNl_in 658 (by decide +kernel) (by decide +kernel)⟩
theorem ml_X9_65 : zMl RX9 65 yX6_towards := Or.inr ⟨RX11, zNl_in 635 (by decide +kernel) (by decide +kernel)⟩
theorem ml_X9_69 : zMl RX9 69 yX5_latestFor := Or.inr ⟨RX11, zNl_in 643 (by decide +kernel) (by decide +kernel)⟩
theorem ml_X9_78 : zMl RX9 78 yX6_lastBut := Or.inr ⟨RX11, zNl_in 654 (by decide +kernel) (by decide +kernel)⟩
theorem ml_X9_81 : zMl RX9 81 yX6_firstBut := Or.inr ⟨RX11, zNl_in 650 (by decide +kernel) (by decide +kernel)⟩
theorem cl_X11_317 : Cond.constantLong RX11 317 7919 ∈ zT := zT_in 838 (by decide +kernel) (by decide +kernel)
theorem cl_X11_319 : Cond.constantLong RX11 319 6151 ∈ zT := zT_in 839 (by decide +kernel) (by decide +kernel)
theorem cl_X11_321 : Cond.constantLong RX11 321 65521 ∈ zT := zT_in 840 (by decide +kernel) (by decide +kernel)
theorem cl_X12_222 : Cond.constantLong RX12 222 7919 ∈ zT := zT_in 1204 (by decide +kernel) (by decide +kernel)
theorem cl_X12_224 : Cond.constantLong RX12 224 6151 ∈ zT := zT_in 1205 (by decide +kernel) (by decide +kernel)
theorem cl_X12_226 : Cond.constantLong RX12 226 65521 ∈ zT := zT_in 1206 (by decide +kernel) (by decide +kernel)
theorem ol_X11_1 : Cond.methodLink RX11 1 objectInit ∈ zT := zT_in 106 (by decide +kernel) (by decide +kernel)
theorem ol_X0_3 : Cond.methodLink RX0 3 objectInit ∈ zT := zT_in 318 (by decide +kernel) (by decide +kernel)
theorem ol_X1_3 : Cond.methodLink RX1 3 objectInit ∈ zT := zT_in 388 (by decide +kernel) (by decide +kernel)
theorem ol_X2_3 : Cond.methodLink RX2 3 objectInit ∈ zT := zT_in 130 (by decide +kernel) (by decide +kernel)
theorem ol_X3_3 : Cond.methodLink RX3 3 objectInit ∈ zT := zT_in 347 (by decide +kernel) (by decide +kernel)
theorem al_X3_45 : Cond.methodLink RX3 45 arraycopyName ∈ zT := zT_in 850 (by decide +kernel) (by decide +kernel)
theorem ol_X4_3 : Cond.methodLink RX4 3 objectInit ∈ zT := zT_in 368 (by decide +kernel) (by decide +kernel)
theorem ol_X5_3 : Cond.methodLink RX5 3 objectInit ∈ zT := zT_in 188 (by decide +kernel) (by decide +kernel)
theorem al_X5_29 : Cond.methodLink RX5 29 arraycopyName ∈ zT := zT_in 737 (by decide +kernel) (by decide +kernel)
theorem ol_X6_3 : Cond.methodLink RX6 3 objectInit ∈ zT := zT_in 153 (by decide +kernel) (by decide +kernel)
theorem ol_X7_3 : Cond.methodLink RX7 3 objectInit ∈ zT := zT_in 114 (by decide +kernel) (by decide +kernel)
theorem ol_X8_3 : Cond.methodLink RX8 3 objectInit ∈ zT := zT_in 147 (by decide +kernel) (by decide +kernel)
theorem ol_X9_3 : Cond.methodLink RX9 3 objectInit ∈ zT := zT_in 282 (by decide +kernel) (by decide +kernel)
theorem ol_X10_3 : Cond.methodLink RX10 3 objectInit ∈ zT := zT_in 213 (by decide +kernel) (by decide +kernel)
theorem ol_X12_1 : Cond.methodLink RX12 1 objectInit ∈ zT := zT_in 868 (by decide +kernel) (by decide +kernel)
theorem kl_X11_7 : Cond.classLink RX11 7 "LostAndTaxed$Text" ∈ zT := zT_in 109 (by decide +kernel) (by decide +kernel)
theorem kl_X11_16 : Cond.classLink RX11 16 "LostAndTaxed$Reader" ∈ zT := zT_in 125 (by decide +kernel) (by decide +kernel)
theorem kl_X11_23 : Cond.classLink RX11 23 "LostAndTaxed$Town" ∈ zT := zT_in 142 (by decide +kernel) (by decide +kernel)
theorem kl_X11_33 : Cond.classLink RX11 33 "LostAndTaxed$Trip" ∈ zT := zT_in 277 (by decide +kernel) (by decide +kernel)
theorem kl_X11_40 : Cond.classLink RX11 40 "LostAndTaxed$Signs" ∈ zT := zT_in 311 (by decide +kernel) (by decide +kernel)
theorem kl_X11_47 : Cond.classLink RX11 47 "LostAndTaxed$Changes" ∈ zT := zT_in 313 (by decide +kernel) (by decide +kernel)
theorem kl_X11_54 : Cond.classLink RX11 54 "LostAndTaxed$Shelf" ∈ zT := zT_in 342 (by decide +kernel) (by decide +kernel)
theorem kl_X11_61 : Cond.classLink RX11 61 "LostAndTaxed$Sightings" ∈ zT := zT_in 363 (by decide +kernel) (by decide +kernel)
theorem kl_X11_68 : Cond.classLink RX11 68 "LostAndTaxed$Pick" ∈ zT := zT_in 383 (by decide +kernel) (by decide +kernel)
theorem kl_X11_75 : Cond.classLink RX11 75 "[[I" ∈ zT := zT_in 396 (by decide +kernel) (by decide +kernel)
theorem kl_X3_9 : Cond.classLink RX3 9 "LostAndTaxed$Signs" ∈ zT := zT_in 348 (by decide +kernel) (by decide +kernel)
theorem kl_X3_17 : Cond.classLink RX3 17 "[[I" ∈ zT := zT_in 350 (by decide +kernel) (by decide +kernel)
theorem kl_X6_18 : Cond.classLink RX6 18 "[[I" ∈ zT := zT_in 154 (by decide +kernel) (by decide +kernel)
theorem kl_X8_9 : Cond.classLink RX8 9 "LostAndTaxed$Streets" ∈ zT := zT_in 148 (by decide +kernel) (by decide +kernel)
theorem kl_X8_18 : Cond.classLink RX8 18 "LostAndTaxed$Signs" ∈ zT := zT_in 183 (by decide +kernel) (by decide +kernel)
theorem kl_X8_25 : Cond.classLink RX8 25 "LostAndTaxed$Walkers" ∈ zT := zT_in 208 (by decide +kernel) (by decide +kernel)
theorem kl_L_7 : Cond.classLink RL 7 "LostAndTaxed" ∈ zT := zT_in 101 (by decide +kernel) (by decide +kernel)
theorem kl_L_10 : Cond.classLink RL 10 "LostAndTaxedModel" ∈ zT := zT_in 863 (by decide +kernel) (by decide +kernel)
theorem it_X11 : Cond.initialized RX11 ∈ zT := zT_in 81 (by decide +kernel) (by decide +kernel)
theorem it_X7 : Cond.initialized RX7 ∈ zT := zT_in 82 (by decide +kernel) (by decide +kernel)
theorem it_X2 : Cond.initialized RX2 ∈ zT := zT_in 83 (by decide +kernel) (by decide +kernel)
theorem it_X8 : Cond.initialized RX8 ∈ zT := zT_in 84 (by decide +kernel) (by decide +kernel)
theorem it_X6 : Cond.initialized RX6 ∈ zT := zT_in 85 (by decide +kernel) (by decide +kernel)
theorem it_X5 : Cond.initialized RX5 ∈ zT := zT_in 86 (by decide +kernel) (by decide +kernel)
theorem it_X10 : Cond.initialized RX10 ∈ zT := zT_in 87 (by decide +kernel) (by decide +kernel)
theorem it_X9 : Cond.initialized RX9 ∈ zT := zT_in 88 (by decide +kernel) (by decide +kernel)
theorem it_X0 : Cond.initialized RX0 ∈ zT := zT_in 89 (by decide +kernel) (by decide +kernel)
theorem it_X3 : Cond.initialized RX3 ∈ zT := zT_in 90 (by decide +kernel) (by decide +kernel)
theorem it_X4 : Cond.initialized RX4 ∈ zT := zT_in 91 (by decide +kernel) (by decide +kernel)
theorem it_X1 : Cond.initialized RX1 ∈ zT := zT_in 92 (by decide +kernel) (by decide +kernel)
theorem it_X12 : Cond.initialized RX12 ∈ zT := zT_in 98 (by decide +kernel) (by decide +kernel)
theorem ac_in : Cond.initialized "java/lang/System" ∈ zT := zT_in 100 (by decide +kernel) (by decide +kernel)
theorem in_X11 : Cond.instantiable RX11 13 ∈ zT := zT_in 102 (by decide +kernel) (by decide +kernel)
theorem oi_in : Cond.instanceMethod objectInit ∈ zT := zT_in 107 (by decide +kernel) (by decide +kernel)
theorem oi_code : Cond.code objectInit ⟨#[0xb1]⟩ 1 none ∈ zT := zT_in 108 (by decide +kernel) (by decide +kernel)
theorem in_X7 : Cond.instantiable RX7 2 ∈ zT := zT_in 110 (by decide +kernel) (by decide +kernel)
-- arrayClass Jvm.ClassFile.FieldType.char 124
theorem in_X2 : Cond.instantiable RX2 3 ∈ zT := zT_in 126 (by decide +kernel) (by decide +kernel)
-- arrayClass Jvm.ClassFile.FieldType.int 141
theorem in_X8 : Cond.instantiable RX8 6 ∈ zT := zT_in 143 (by decide +kernel) (by decide +kernel)
theorem in_X6 : Cond.instantiable RX6 6 ∈ zT := zT_in 149 (by decide +kernel) (by decide +kernel)
-- arrayOver (Jvm.ClassFile.FieldType.array Jvm.ClassFile.FieldType.int) 155
theorem in_X5 : Cond.instantiable RX5 4 ∈ zT := zT_in 184 (by decide +kernel) (by decide +kernel)
theorem in_X10 : Cond.instantiable RX10 5 ∈ zT := zT_in 209 (by decide +kernel) (by decide +kernel)
theorem in_X9 : Cond.instantiable RX9 7 ∈ zT := zT_in 278 (by decide +kernel) (by decide +kernel)
-- arrayClass Jvm.ClassFile.FieldType.boolean 310
theorem in_X0 : Cond.instantiable RX0 7 ∈ zT := zT_in 314 (by decide +kernel) (by decide +kernel)
theorem in_X3 : Cond.instantiable RX3 3 ∈ zT := zT_in 343 (by decide +kernel) (by decide +kernel)
-- arrayOver (Jvm.ClassFile.FieldType.object "LostAndTaxed$Signs") 349
theorem in_X4 : Cond.instantiable RX4 4 ∈ zT := zT_in 364 (by decide +kernel) (by decide +kernel)
theorem in_X1 : Cond.instantiable RX1 2 ∈ zT := zT_in 384 (by decide +kernel) (by decide +kernel)
-- arrayClass Jvm.ClassFile.FieldType.byte 580
theorem ac_st : Cond.static arraycopyName ∈ zT := zT_in 738 (by decide +kernel) (by decide +kernel)
theorem ac_nat : Cond.native arraycopyName ∈ zT := zT_in 739 (by decide +kernel) (by decide +kernel)
theorem in_X12 : Cond.instantiable RX12 34 ∈ zT := zT_in 864 (by decide +kernel) (by decide +kernel)
end
section
/-! the cells as both constructors leave them: 0 the system, 109 the reference; t the town in force (5 or 36) -/
def SH : AS := [(11, 13), (7, 2), (14, 200), (2, 3), (15, 3), (8, 6), (6, 6), (15, 12), (15, 12), (18, 8), (15, 8), (15, 8), (15, 8), (15, 8), (15, 8), (15, 8), (15, 8), (15, 8), (18, 8), (15, 8), (15, 8), (15, 8), (15, 8), (15, 8), (15, 8), (15, 8), (15, 8), (5, 4), (15, 9), (15, 9), (15, 9), (10, 5), (15, 4), (15, 4), (15, 4), (15, 4), (8, 6), (6, 6), (15, 12), (15, 12), (18, 8), (15, 8), (15, 8), (15, 8), (15, 8), (15, 8), (15, 8), (15, 8), (15, 8), (18, 8), (15, 8), (15, 8), (15, 8), (15, 8), (15, 8), (15, 8), (15, 8), (15, 8), (5, 4), (15, 9), (15, 9), (15, 9), (10, 5), (15, 4), (15, 4), (15, 4), (15, 4), (9, 7), (15, 31), (16, 30), (5, 4), (15, 9), (15, 9), (15, 9), (0, 7), (15, 8), (15, 8), (15, 8), (15, 8), (15, 8), (3, 3), (17, 2), (18, 2), (15, 4), (15, 4), (5, 4), (15, 9), (15, 9), (15, 9), (5, 4), (15, 9), (15, 9), (15, 9), (4, 4), (15, 8), (15, 8), (15, 8), (1, 2), (18, 8), (15, 8), (15, 8), (15, 8), (15, 8), (15, 8), (15, 8), (15, 8), (15, 8), (15, 8), (15, 4), (12, 34), (13, 200), (15, 2), (15, 2), (15, 24), (15, 24), (15, 24), (15, 2), (15, 8), (15, 8), (15, 8), (15, 6), (15, 24), (15, 384), (15, 64), (15, 64), (15, 31), (15, 8), (15, 4), (15, 8), (15, 8), (15, 8)]
theorem sh_0 : SH[0]? = some (11, 13) := rfl
theorem sh_1 : SH[1]? = some (7, 2) := rfl
theorem sh_2 : SH[2]? = some (14, 200) := rfl
theorem sh_3 : SH[3]? = some (2, 3) := rfl
theorem sh_4 : SH[4]? = some (15, 3) := rfl
theorem sh_5 : SH[5]? = some (8, 6) := rfl
theorem sh_6 : SH[6]? = some (6, 6) := rfl
theorem sh_7 : SH[7]? = some (15, 12) := rfl
theorem sh_8 : SH[8]? = some (15, 12) := rfl
theorem sh_9 : SH[9]? = some (18, 8) := rfl
theorem sh_10 : SH[10]? = some (15, 8) := rfl
theorem sh_11 : SH[11]? = some (15, 8) := rfl
theorem sh_12 : SH[12]? = some (15, 8) := rfl
theorem sh_13 : SH[13]? = some (15, 8) := rfl
theorem sh_14 : SH[14]? = some (15, 8) := rfl
theorem sh_15 : SH[15]? = some (15, 8) := rfl
theorem sh_16 : SH[16]? = some (15, 8) := rfl
theorem sh_17 : SH[17]? = some (15, 8) := rfl
theorem sh_18 : SH[18]? = some (18, 8) := rfl
theorem sh_19 : SH[19]? = some (15, 8) := rfl
theorem sh_20 : SH[20]? = some (15, 8) := rfl
theorem sh_21 : SH[21]? = some (15, 8) := rfl
theorem sh_22 : SH[22]? = some (15, 8) := rfl
theorem sh_23 : SH[23]? = some (15, 8) := rfl
theorem sh_24 : SH[24]? = some (15, 8) := rfl
theorem sh_25 : SH[25]? = some (15, 8) := rfl
theorem sh_26 : SH[26]? = some (15, 8) := rfl
theorem sh_27 : SH[27]? = some (5, 4) := rfl
theorem sh_28 : SH[28]? = some (15, 9) := rfl
theorem sh_29 : SH[29]? = some (15, 9) := rfl
theorem sh_30 : SH[30]? = some (15, 9) := rfl
theorem sh_31 : SH[31]? = some (10, 5) := rfl
theorem sh_32 : SH[32]? = some (15, 4) := rfl
theorem sh_33 : SH[33]? = some (15, 4) := rfl
theorem sh_34 : SH[34]? = some (15, 4) := rfl
theorem sh_35 : SH[35]? = some (15, 4) := rfl
theorem sh_36 : SH[36]? = some (8, 6) := rfl
theorem sh_37 : SH[37]? = some (6, 6) := rfl
theorem sh_38 : SH[38]? = some (15, 12) := rfl
theorem sh_39 : SH[39]? = some (15, 12) := rfl
theorem sh_40 : SH[40]? = some (18, 8) := rfl
theorem sh_41 : SH[41]? = some (15, 8) := rfl
theorem sh_42 : SH[42]? = some (15, 8) := rfl
theorem sh_43 : SH[43]? = some (15, 8) := rfl
theorem sh_44 : SH[44]? = some (15, 8) := rfl
theorem sh_45 : SH[45]? = some (15, 8) := rfl
theorem sh_46 : SH[46]? = some (15, 8) := rfl
theorem sh_47 : SH[47]? = some (15, 8) := rfl
theorem sh_48 : SH[48]? = some (15, 8) := rfl
theorem sh_49 : SH[49]? = some (18, 8) := rfl
theorem sh_50 : SH[50]? = some (15, 8) := rfl
theorem sh_51 : SH[51]? = some (15, 8) := rfl
theorem sh_52 : SH[52]? = some (15, 8) := rfl
theorem sh_53 : SH[53]? = some (15, 8) := rfl
theorem sh_54 : SH[54]? = some (15, 8) := rfl
theorem sh_55 : SH[55]? = some (15, 8) := rfl
theorem sh_56 : SH[56]? = some (15, 8) := rfl
theorem sh_57 : SH[57]? = some (15, 8) := rfl
theorem sh_58 : SH[58]? = some (5, 4) := rfl
theorem sh_59 : SH[59]? = some (15, 9) := rfl
theorem sh_60 : SH[60]? = some (15, 9) := rfl
theorem sh_61 : SH[61]? = some (15, 9) := rfl
theorem sh_62 : SH[62]? = some (10, 5) := rfl
theorem sh_63 : SH[63]? = some (15, 4) := rfl
theorem sh_64 : SH[64]? = some (15, 4) := rfl
theorem sh_65 : SH[65]? = some (15, 4) := rfl
theorem sh_66 : SH[66]? = some (15, 4) := rfl
theorem sh_67 : SH[67]? = some (9, 7) := rfl
theorem sh_68 : SH[68]? = some (15, 31) := rfl
theorem sh_69 : SH[69]? = some (16, 30) := rfl
theorem sh_70 : SH[70]? = some (5, 4) := rfl
theorem sh_71 : SH[71]? = some (15, 9) := rfl
theorem sh_72 : SH[72]? = some (15, 9) := rfl
theorem sh_73 : SH[73]? = some (15, 9) := rfl
theorem sh_74 : SH[74]? = some (0, 7) := rfl
theorem sh_75 : SH[75]? = some (15, 8) := rfl
theorem sh_76 : SH[76]? = some (15, 8) := rfl
theorem sh_77 : SH[77]? = some (15, 8) := rfl
theorem sh_78 : SH[78]? = some (15, 8) := rfl
theorem sh_79 : SH[79]? = some (15, 8) := rfl
theorem sh_80 : SH[80]? = some (3, 3) := rfl
theorem sh_81 : SH[81]? = some (17, 2) := rfl
theorem sh_82 : SH[82]? = some (18, 2) := rfl
theorem sh_83 : SH[83]? = some (15, 4) := rfl
theorem sh_84 : SH[84]? = some (15, 4) := rfl
theorem sh_85 : SH[85]? = some (5, 4) := rfl
theorem sh_86 : SH[86]? = some (15, 9) := rfl
theorem sh_87 : SH[87]? = some (15, 9) := rfl
theorem sh_88 : SH[88]? = some (15, 9) := rfl
theorem sh_89 : SH[89]? = some (5, 4) := rfl
theorem sh_90 : SH[90]? = some (15, 9) := rfl
theorem sh_91 : SH[91]? = some (15, 9) := rfl
theorem sh_92 : SH[92]? = some (15, 9) := rfl
theorem sh_93 : SH[93]? = some (4, 4) := rfl
theorem sh_94 : SH[94]? = some (15, 8) := rfl
theorem sh_95 : SH[95]? = some (15, 8) := rfl
theorem sh_96 : SH[96]? = some (15, 8) := rfl
theorem sh_97 : SH[97]? = some (1, 2) := rfl
theorem sh_98 : SH[98]? = some (18, 8) := rfl
theorem sh_99 : SH[99]? = some (15, 8) := rfl
theorem sh_100 : SH[100]? = some (15, 8) := rfl
theorem sh_101 : SH[101]? = some (15, 8) := rfl
theorem sh_102 : SH[102]? = some (15, 8) := rfl
theorem sh_103 : SH[103]? = some (15, 8) := rfl
theorem sh_104 : SH[104]? = some (15, 8) := rfl
theorem sh_105 : SH[105]? = some (15, 8) := rfl
theorem sh_106 : SH[106]? = some (15, 8) := rfl
theorem sh_107 : SH[107]? = some (15, 8) := rfl
theorem sh_108 : SH[108]? = some (15, 4) := rfl
theorem sh_109 : SH[109]? = some (12, 34) := rfl
theorem sh_110 : SH[110]? = some (13, 200) := rfl
theorem sh_111 : SH[111]? = some (15, 2) := rfl
theorem sh_112 : SH[112]? = some (15, 2) := rfl
theorem sh_113 : SH[113]? = some (15, 24) := rfl
theorem sh_114 : SH[114]? = some (15, 24) := rfl
theorem sh_115 : SH[115]? = some (15, 24) := rfl
theorem sh_116 : SH[116]? = some (15, 2) := rfl
theorem sh_117 : SH[117]? = some (15, 8) := rfl
theorem sh_118 : SH[118]? = some (15, 8) := rfl
theorem sh_119 : SH[119]? = some (15, 8) := rfl
theorem sh_120 : SH[120]? = some (15, 6) := rfl
theorem sh_121 : SH[121]? = some (15, 24) := rfl
theorem sh_122 : SH[122]? = some (15, 384) := rfl
theorem sh_123 : SH[123]? = some (15, 64) := rfl
theorem sh_124 : SH[124]? = some (15, 64) := rfl
theorem sh_125 : SH[125]? = some (15, 31) := rfl
theorem sh_126 : SH[126]? = some (15, 8) := rfl
theorem sh_127 : SH[127]? = some (15, 4) := rfl
theorem sh_128 : SH[128]? = some (15, 8) := rfl
theorem sh_129 : SH[129]? = some (15, 8) := rfl
theorem sh_130 : SH[130]? = some (15, 8) := rfl
def zFt (t a : Nat) : List (Option Nat) :=
  if a = 109 then [some 110, none, some 111, some 112, some 113, some 114, some 115, some 116, some 117, some 118, some 119, some 120, some 121, none, none, none, none, some 122, none, none, some 123, some 124, some 125, none, none, none, none, none, some 126, some 127, some 128, some 129, some 130] else
  if a = 0 then [some 1, some 3, some t, some (41 - t), some 67, some 70, some 74, some 80, some 93, some 97, some 98, some 107, some 108] else
  if a = 1 then [some 2] else
  if a = 3 then [some 4] else
  if a = 5 then [some 6, some 27, some 31] else
  if a = 6 then [none, none, some 7, some 8, some 9, some 18] else
  if a = 9 then [some 10, some 11, some 12, some 13, some 14, some 15, some 16, some 17] else
  if a = 18 then [some 19, some 20, some 21, some 22, some 23, some 24, some 25, some 26] else
  if a = 27 then [some 28, some 29, some 30] else
  if a = 31 then [some 32, some 33, some 34, some 35] else
  if a = 36 then [some 37, some 58, some 62] else
  if a = 37 then [none, none, some 38, some 39, some 40, some 49] else
  if a = 40 then [some 41, some 42, some 43, some 44, some 45, some 46, some 47, some 48] else
  if a = 49 then [some 50, some 51, some 52, some 53, some 54, some 55, some 56, some 57] else
  if a = 58 then [some 59, some 60, some 61] else
  if a = 62 then [some 63, some 64, some 65, some 66] else
  if a = 67 then [some 68, some 69] else
  if a = 70 then [some 71, some 72, some 73] else
  if a = 74 then [some 75, some 76, some 77, some 78, some 79] else
  if a = 80 then [some 81, some 82] else
  if a = 81 then [some 85, some 89] else
  if a = 82 then [some 83, some 84] else
  if a = 85 then [some 86, some 87, some 88] else
  if a = 89 then [some 90, some 91, some 92] else
  if a = 93 then [some 94, some 95, some 96] else
  if a = 98 then [some 99, some 100, some 101, some 102, some 103, some 104, some 105, some 106] else []
def zF (t : Nat) : AR := fun a k => (zFt t a).getD k none
theorem F_109_0 {t : Nat} : zF t 109 0 = some 110 := rfl
theorem F_109_2 {t : Nat} : zF t 109 2 = some 111 := rfl
theorem F_109_3 {t : Nat} : zF t 109 3 = some 112 := rfl
theorem F_109_4 {t : Nat} : zF t 109 4 = some 113 := rfl
theorem F_109_5 {t : Nat} : zF t 109 5 = some 114 := rfl
theorem F_109_6 {t : Nat} : zF t 109 6 = some 115 := rfl
theorem F_109_7 {t : Nat} : zF t 109 7 = some 116 := rfl
theorem F_109_8 {t : Nat} : zF t 109 8 = some 117 := rfl
theorem F_109_9 {t : Nat} : zF t 109 9 = some 118 := rfl
theorem F_109_10 {t : Nat} : zF t 109 10 = some 119 := rfl
theorem F_109_11 {t : Nat} : zF t 109 11 = some 120 := rfl
theorem F_109_12 {t : Nat} : zF t 109 12 = some 121 := rfl
theorem F_109_17 {t : Nat} : zF t 109 17 = some 122 := rfl
theorem F_109_20 {t : Nat} : zF t 109 20 = some 123 := rfl
theorem F_109_21 {t : Nat} : zF t 109 21 = some 124 := rfl
theorem F_109_22 {t : Nat} : zF t 109 22 = some 125 := rfl
theorem F_109_28 {t : Nat} : zF t 109 28 = some 126 := rfl
theorem F_109_29 {t : Nat} : zF t 109 29 = some 127 := rfl
theorem F_109_30 {t : Nat} : zF t 109 30 = some 128 := rfl
theorem F_109_31 {t : Nat} : zF t 109 31 = some 129 := rfl
theorem F_109_32 {t : Nat} : zF t 109 32 = some 130 := rfl
theorem F_0_0 {t : Nat} : zF t 0 0 = some 1 := rfl
theorem F_0_1 {t : Nat} : zF t 0 1 = some 3 := rfl
theorem F_0_2 {t : Nat} : zF t 0 2 = some t := rfl
theorem F_0_3 {t : Nat} : zF t 0 3 = some (41 - t) := rfl
theorem F_0_4 {t : Nat} : zF t 0 4 = some 67 := rfl
theorem F_0_5 {t : Nat} : zF t 0 5 = some 70 := rfl
theorem F_0_6 {t : Nat} : zF t 0 6 = some 74 := rfl
theorem F_0_7 {t : Nat} : zF t 0 7 = some 80 := rfl
theorem F_0_8 {t : Nat} : zF t 0 8 = some 93 := rfl
theorem F_0_9 {t : Nat} : zF t 0 9 = some 97 := rfl
theorem F_0_10 {t : Nat} : zF t 0 10 = some 98 := rfl
theorem F_0_11 {t : Nat} : zF t 0 11 = some 107 := rfl
theorem F_0_12 {t : Nat} : zF t 0 12 = some 108 := rfl
theorem F_1_0 {t : Nat} : zF t 1 0 = some 2 := rfl
theorem F_3_0 {t : Nat} : zF t 3 0 = some 4 := rfl
theorem F_5_0 {t : Nat} : zF t 5 0 = some 6 := rfl
theorem F_5_1 {t : Nat} : zF t 5 1 = some 27 := rfl
theorem F_5_2 {t : Nat} : zF t 5 2 = some 31 := rfl
theorem F_6_2 {t : Nat} : zF t 6 2 = some 7 := rfl
theorem F_6_3 {t : Nat} : zF t 6 3 = some 8 := rfl
theorem F_6_4 {t : Nat} : zF t 6 4 = some 9 := rfl
theorem F_6_5 {t : Nat} : zF t 6 5 = some 18 := rfl
theorem F_9_0 {t : Nat} : zF t 9 0 = some 10 := rfl
theorem F_9_1 {t : Nat} : zF t 9 1 = some 11 := rfl
theorem F_9_2 {t : Nat} : zF t 9 2 = some 12 := rfl
theorem F_9_3 {t : Nat} : zF t 9 3 = some 13 := rfl
theorem F_9_4 {t : Nat} : zF t 9 4 = some 14 := rfl
theorem F_9_5 {t : Nat} : zF t 9 5 = some 15 := rfl
theorem F_9_6 {t : Nat} : zF t 9 6 = some 16 := rfl
theorem F_9_7 {t : Nat} : zF t 9 7 = some 17 := rfl
theorem F_18_0 {t : Nat} : zF t 18 0 = some 19 := rfl
theorem F_18_1 {t : Nat} : zF t 18 1 = some 20 := rfl
theorem F_18_2 {t : Nat} : zF t 18 2 = some 21 := rfl
theorem F_18_3 {t : Nat} : zF t 18 3 = some 22 := rfl
theorem F_18_4 {t : Nat} : zF t 18 4 = some 23 := rfl
theorem F_18_5 {t : Nat} : zF t 18 5 = some 24 := rfl
theorem F_18_6 {t : Nat} : zF t 18 6 = some 25 := rfl
theorem F_18_7 {t : Nat} : zF t 18 7 = some 26 := rfl
theorem F_27_0 {t : Nat} : zF t 27 0 = some 28 := rfl
theorem F_27_1 {t : Nat} : zF t 27 1 = some 29 := rfl
theorem F_27_2 {t : Nat} : zF t 27 2 = some 30 := rfl
theorem F_31_0 {t : Nat} : zF t 31 0 = some 32 := rfl
theorem F_31_1 {t : Nat} : zF t 31 1 = some 33 := rfl
theorem F_31_2 {t : Nat} : zF t 31 2 = some 34 := rfl
theorem F_31_3 {t : Nat} : zF t 31 3 = some 35 := rfl
theorem F_36_0 {t : Nat} : zF t 36 0 = some 37 := rfl
theorem F_36_1 {t : Nat} : zF t 36 1 = some 58 := rfl
theorem F_36_2 {t : Nat} : zF t 36 2 = some 62 := rfl
theorem F_37_2 {t : Nat} : zF t 37 2 = some 38 := rfl
theorem F_37_3 {t : Nat} : zF t 37 3 = some 39 := rfl
theorem F_37_4 {t : Nat} : zF t 37 4 = some 40 := rfl
theorem F_37_5 {t : Nat} : zF t 37 5 = some 49 := rfl
theorem F_40_0 {t : Nat} : zF t 40 0 = some 41 := rfl
theorem F_40_1 {t : Nat} : zF t 40 1 = some 42 := rfl
theorem F_40_2 {t : Nat} : zF t 40 2 = some 43 := rfl
theorem F_40_3 {t : Nat} : zF t 40 3 = some 44 := rfl
theorem F_40_4 {t : Nat} : zF t 40 4 = some 45 := rfl
theorem F_40_5 {t : Nat} : zF t 40 5 = some 46 := rfl
theorem F_40_6 {t : Nat} : zF t 40 6 = some 47 := rfl
theorem F_40_7 {t : Nat} : zF t 40 7 = some 48 := rfl
theorem F_49_0 {t : Nat} : zF t 49 0 = some 50 := rfl
theorem F_49_1 {t : Nat} : zF t 49 1 = some 51 := rfl
theorem F_49_2 {t : Nat} : zF t 49 2 = some 52 := rfl
theorem F_49_3 {t : Nat} : zF t 49 3 = some 53 := rfl
theorem F_49_4 {t : Nat} : zF t 49 4 = some 54 := rfl
theorem F_49_5 {t : Nat} : zF t 49 5 = some 55 := rfl
theorem F_49_6 {t : Nat} : zF t 49 6 = some 56 := rfl
theorem F_49_7 {t : Nat} : zF t 49 7 = some 57 := rfl
theorem F_58_0 {t : Nat} : zF t 58 0 = some 59 := rfl
theorem F_58_1 {t : Nat} : zF t 58 1 = some 60 := rfl
theorem F_58_2 {t : Nat} : zF t 58 2 = some 61 := rfl
theorem F_62_0 {t : Nat} : zF t 62 0 = some 63 := rfl
theorem F_62_1 {t : Nat} : zF t 62 1 = some 64 := rfl
theorem F_62_2 {t : Nat} : zF t 62 2 = some 65 := rfl
theorem F_62_3 {t : Nat} : zF t 62 3 = some 66 := rfl
theorem F_67_0 {t : Nat} : zF t 67 0 = some 68 := rfl
theorem F_67_1 {t : Nat} : zF t 67 1 = some 69 := rfl
theorem F_70_0 {t : Nat} : zF t 70 0 = some 71 := rfl
theorem F_70_1 {t : Nat} : zF t 70 1 = some 72 := rfl
theorem F_70_2 {t : Nat} : zF t 70 2 = some 73 := rfl
theorem F_74_0 {t : Nat} : zF t 74 0 = some 75 := rfl
theorem F_74_1 {t : Nat} : zF t 74 1 = some 76 := rfl
theorem F_74_2 {t : Nat} : zF t 74 2 = some 77 := rfl
theorem F_74_3 {t : Nat} : zF t 74 3 = some 78 := rfl
theorem F_74_4 {t : Nat} : zF t 74 4 = some 79 := rfl
theorem F_80_0 {t : Nat} : zF t 80 0 = some 81 := rfl
theorem F_80_1 {t : Nat} : zF t 80 1 = some 82 := rfl
theorem F_81_0 {t : Nat} : zF t 81 0 = some 85 := rfl
theorem F_81_1 {t : Nat} : zF t 81 1 = some 89 := rfl
theorem F_82_0 {t : Nat} : zF t 82 0 = some 83 := rfl
theorem F_82_1 {t : Nat} : zF t 82 1 = some 84 := rfl
theorem F_85_0 {t : Nat} : zF t 85 0 = some 86 := rfl
theorem F_85_1 {t : Nat} : zF t 85 1 = some 87 := rfl
theorem F_85_2 {t : Nat} : zF t 85 2 = some 88 := rfl
theorem F_89_0 {t : Nat} : zF t 89 0 = some 90 := rfl
theorem F_89_1 {t : Nat} : zF t 89 1 = some 91 := rfl
theorem F_89_2 {t : Nat} : zF t 89 2 = some 92 := rfl
theorem F_93_0 {t : Nat} : zF t 93 0 = some 94 := rfl
theorem F_93_1 {t : Nat} : zF t 93 1 = some 95 := rfl
theorem F_93_2 {t : Nat} : zF t 93 2 = some 96 := rfl
theorem F_98_0 {t : Nat} : zF t 98 0 = some 99 := rfl
theorem F_98_1 {t : Nat} : zF t 98 1 = some 100 := rfl
theorem F_98_2 {t : Nat} : zF t 98 2 = some 101 := rfl
theorem F_98_3 {t : Nat} : zF t 98 3 = some 102 := rfl
theorem F_98_4 {t : Nat} : zF t 98 4 = some 103 := rfl
theorem F_98_5 {t : Nat} : zF t 98 5 = some 104 := rfl
theorem F_98_6 {t : Nat} : zF t 98 6 = some 105 := rfl
theorem F_98_7 {t : Nat} : zF t 98 7 = some 106 := rfl
theorem fr_0_0 : (decide (0 < 13) && decide (0 < 7) && decide (7 = zNf 0) && (zTy 0 0).isReference) = true := by decide
theorem fr_0_1 : (decide (0 < 13) && decide (1 < 7) && decide (7 = zNf 0) && (zTy 0 1).isReference) = true := by decide
theorem fr_0_2 : (decide (0 < 13) && decide (2 < 7) && decide (7 = zNf 0) && (zTy 0 2).isReference) = true := by decide
theorem fr_0_3 : (decide (0 < 13) && decide (3 < 7) && decide (7 = zNf 0) && (zTy 0 3).isReference) = true := by decide
theorem fr_0_4 : (decide (0 < 13) && decide (4 < 7) && decide (7 = zNf 0) && (zTy 0 4).isReference) = true := by decide
theorem fi_0_5 : (decide (0 < 13) && decide (5 < 7) && decide (7 = zNf 0) && !(zTy 0 5).isReference) = true := by decide
theorem fp_0_5 : (decide (0 < 13) && decide (5 < 7) && decide (7 = zNf 0) && !(zTy 0 5).isReference && !(zTb 0 5).2.2.2) = true := by decide
theorem fi_0_6 : (decide (0 < 13) && decide (6 < 7) && decide (7 = zNf 0) && !(zTy 0 6).isReference) = true := by decide
theorem fp_0_6 : (decide (0 < 13) && decide (6 < 7) && decide (7 = zNf 0) && !(zTy 0 6).isReference && !(zTb 0 6).2.2.2) = true := by decide
theorem fi_1_0 : (decide (1 < 13) && decide (0 < 2) && decide (2 = zNf 1) && !(zTy 1 0).isReference) = true := by decide
theorem fp_1_0 : (decide (1 < 13) && decide (0 < 2) && decide (2 = zNf 1) && !(zTy 1 0).isReference && !(zTb 1 0).2.2.2) = true := by decide
theorem fi_1_1 : (decide (1 < 13) && decide (1 < 2) && decide (2 = zNf 1) && !(zTy 1 1).isReference) = true := by decide
theorem fp_1_1 : (decide (1 < 13) && decide (1 < 2) && decide (2 = zNf 1) && !(zTy 1 1).isReference && !(zTb 1 1).2.2.2) = true := by decide
theorem fr_2_0 : (decide (2 < 13) && decide (0 < 3) && decide (3 = zNf 2) && (zTy 2 0).isReference) = true := by decide
theorem fi_2_1 : (decide (2 < 13) && decide (1 < 3) && decide (3 = zNf 2) && !(zTy 2 1).isReference) = true := by decide
theorem fp_2_1 : (decide (2 < 13) && decide (1 < 3) && decide (3 = zNf 2) && !(zTy 2 1).isReference && !(zTb 2 1).2.2.2) = true := by decide
theorem fi_2_2 : (decide (2 < 13) && decide (2 < 3) && decide (3 = zNf 2) && !(zTy 2 2).isReference) = true := by decide
theorem fp_2_2 : (decide (2 < 13) && decide (2 < 3) && decide (3 = zNf 2) && !(zTy 2 2).isReference && !(zTb 2 2).2.2.2) = true := by decide
theorem fr_3_0 : (decide (3 < 13) && decide (0 < 3) && decide (3 = zNf 3) && (zTy 3 0).isReference) = true := by decide
theorem fr_3_1 : (decide (3 < 13) && decide (1 < 3) && decide (3 = zNf 3) && (zTy 3 1).isReference) = true := by decide
theorem fi_3_2 : (decide (3 < 13) && decide (2 < 3) && decide (3 = zNf 3) && !(zTy 3 2).isReference) = true := by decide
theorem fp_3_2 : (decide (3 < 13) && decide (2 < 3) && decide (3 = zNf 3) && !(zTy 3 2).isReference && !(zTb 3 2).2.2.2) = true := by decide
theorem fr_4_0 : (decide (4 < 13) && decide (0 < 4) && decide (4 = zNf 4) && (zTy 4 0).isReference) = true := by decide
theorem fr_4_1 : (decide (4 < 13) && decide (1 < 4) && decide (4 = zNf 4) && (zTy 4 1).isReference) = true := by decide
theorem fr_4_2 : (decide (4 < 13) && decide (2 < 4) && decide (4 = zNf 4) && (zTy 4 2).isReference) = true := by decide
theorem fi_4_3 : (decide (4 < 13) && decide (3 < 4) && decide (4 = zNf 4) && !(zTy 4 3).isReference) = true := by decide
theorem fp_4_3 : (decide (4 < 13) && decide (3 < 4) && decide (4 = zNf 4) && !(zTy 4 3).isReference && !(zTb 4 3).2.2.2) = true := by decide
theorem fr_5_0 : (decide (5 < 13) && decide (0 < 4) && decide (4 = zNf 5) && (zTy 5 0).isReference) = true := by decide
theorem fr_5_1 : (decide (5 < 13) && decide (1 < 4) && decide (4 = zNf 5) && (zTy 5 1).isReference) = true := by decide
theorem fr_5_2 : (decide (5 < 13) && decide (2 < 4) && decide (4 = zNf 5) && (zTy 5 2).isReference) = true := by decide
theorem fi_5_3 : (decide (5 < 13) && decide (3 < 4) && decide (4 = zNf 5) && !(zTy 5 3).isReference) = true := by decide
theorem fp_5_3 : (decide (5 < 13) && decide (3 < 4) && decide (4 = zNf 5) && !(zTy 5 3).isReference && !(zTb 5 3).2.2.2) = true := by decide
theorem fi_6_0 : (decide (6 < 13) && decide (0 < 6) && decide (6 = zNf 6) && !(zTy 6 0).isReference) = true := by decide
theorem fp_6_0 : (decide (6 < 13) && decide (0 < 6) && decide (6 = zNf 6) && !(zTy 6 0).isReference && !(zTb 6 0).2.2.2) = true := by decide
theorem fi_6_1 : (decide (6 < 13) && decide (1 < 6) && decide (6 = zNf 6) && !(zTy 6 1).isReference) = true := by decide
theorem fp_6_1 : (decide (6 < 13) && decide (1 < 6) && decide (6 = zNf 6) && !(zTy 6 1).isReference && !(zTb 6 1).2.2.2) = true := by decide
theorem fr_6_2 : (decide (6 < 13) && decide (2 < 6) && decide (6 = zNf 6) && (zTy 6 2).isReference) = true := by decide
theorem fr_6_3 : (decide (6 < 13) && decide (3 < 6) && decide (6 = zNf 6) && (zTy 6 3).isReference) = true := by decide
theorem fr_6_4 : (decide (6 < 13) && decide (4 < 6) && decide (6 = zNf 6) && (zTy 6 4).isReference) = true := by decide
theorem fr_6_5 : (decide (6 < 13) && decide (5 < 6) && decide (6 = zNf 6) && (zTy 6 5).isReference) = true := by decide
theorem fr_7_0 : (decide (7 < 13) && decide (0 < 2) && decide (2 = zNf 7) && (zTy 7 0).isReference) = true := by decide
theorem fi_7_1 : (decide (7 < 13) && decide (1 < 2) && decide (2 = zNf 7) && !(zTy 7 1).isReference) = true := by decide
theorem fp_7_1 : (decide (7 < 13) && decide (1 < 2) && decide (2 = zNf 7) && !(zTy 7 1).isReference && !(zTb 7 1).2.2.2) = true := by decide
theorem fr_8_0 : (decide (8 < 13) && decide (0 < 6) && decide (6 = zNf 8) && (zTy 8 0).isReference) = true := by decide
theorem fr_8_1 : (decide (8 < 13) && decide (1 < 6) && decide (6 = zNf 8) && (zTy 8 1).isReference) = true := by decide
theorem fr_8_2 : (decide (8 < 13) && decide (2 < 6) && decide (6 = zNf 8) && (zTy 8 2).isReference) = true := by decide
theorem fi_8_3 : (decide (8 < 13) && decide (3 < 6) && decide (6 = zNf 8) && !(zTy 8 3).isReference) = true := by decide
theorem fp_8_3 : (decide (8 < 13) && decide (3 < 6) && decide (6 = zNf 8) && !(zTy 8 3).isReference && !(zTb 8 3).2.2.2) = true := by decide
theorem fi_8_4 : (decide (8 < 13) && decide (4 < 6) && decide (6 = zNf 8) && !(zTy 8 4).isReference) = true := by decide
theorem fp_8_4 : (decide (8 < 13) && decide (4 < 6) && decide (6 = zNf 8) && !(zTy 8 4).isReference && !(zTb 8 4).2.2.2) = true := by decide
theorem fi_8_5 : (decide (8 < 13) && decide (5 < 6) && decide (6 = zNf 8) && !(zTy 8 5).isReference) = true := by decide
theorem fp_8_5 : (decide (8 < 13) && decide (5 < 6) && decide (6 = zNf 8) && !(zTy 8 5).isReference && !(zTb 8 5).2.2.2) = true := by decide
theorem fr_9_0 : (decide (9 < 13) && decide (0 < 7) && decide (7 = zNf 9) && (zTy 9 0).isReference) = true := by decide
theorem fr_9_1 : (decide (9 < 13) && decide (1 < 7) && decide (7 = zNf 9) && (zTy 9 1).isReference) = true := by decide
theorem fi_9_2 : (decide (9 < 13) && decide (2 < 7) && decide (7 = zNf 9) && !(zTy 9 2).isReference) = true := by decide
theorem fp_9_2 : (decide (9 < 13) && decide (2 < 7) && decide (7 = zNf 9) && !(zTy 9 2).isReference && !(zTb 9 2).2.2.2) = true := by decide
theorem fi_9_3 : (decide (9 < 13) && decide (3 < 7) && decide (7 = zNf 9) && !(zTy 9 3).isReference) = true := by decide
theorem fp_9_3 : (decide (9 < 13) && decide (3 < 7) && decide (7 = zNf 9) && !(zTy 9 3).isReference && !(zTb 9 3).2.2.2) = true := by decide
theorem fi_9_4 : (decide (9 < 13) && decide (4 < 7) && decide (7 = zNf 9) && !(zTy 9 4).isReference) = true := by decide
theorem fp_9_4 : (decide (9 < 13) && decide (4 < 7) && decide (7 = zNf 9) && !(zTy 9 4).isReference && !(zTb 9 4).2.2.2) = true := by decide
theorem fi_9_5 : (decide (9 < 13) && decide (5 < 7) && decide (7 = zNf 9) && !(zTy 9 5).isReference) = true := by decide
theorem fp_9_5 : (decide (9 < 13) && decide (5 < 7) && decide (7 = zNf 9) && !(zTy 9 5).isReference && !(zTb 9 5).2.2.2) = true := by decide
theorem fi_9_6 : (decide (9 < 13) && decide (6 < 7) && decide (7 = zNf 9) && !(zTy 9 6).isReference) = true := by decide
theorem fp_9_6 : (decide (9 < 13) && decide (6 < 7) && decide (7 = zNf 9) && !(zTy 9 6).isReference && !(zTb 9 6).2.2.2) = true := by decide
theorem fr_10_0 : (decide (10 < 13) && decide (0 < 5) && decide (5 = zNf 10) && (zTy 10 0).isReference) = true := by decide
theorem fr_10_1 : (decide (10 < 13) && decide (1 < 5) && decide (5 = zNf 10) && (zTy 10 1).isReference) = true := by decide
theorem fr_10_2 : (decide (10 < 13) && decide (2 < 5) && decide (5 = zNf 10) && (zTy 10 2).isReference) = true := by decide
theorem fr_10_3 : (decide (10 < 13) && decide (3 < 5) && decide (5 = zNf 10) && (zTy 10 3).isReference) = true := by decide
theorem fi_10_4 : (decide (10 < 13) && decide (4 < 5) && decide (5 = zNf 10) && !(zTy 10 4).isReference) = true := by decide
theorem fp_10_4 : (decide (10 < 13) && decide (4 < 5) && decide (5 = zNf 10) && !(zTy 10 4).isReference && !(zTb 10 4).2.2.2) = true := by decide
theorem fr_11_0 : (decide (11 < 13) && decide (0 < 13) && decide (13 = zNf 11) && (zTy 11 0).isReference) = true := by decide
theorem fr_11_1 : (decide (11 < 13) && decide (1 < 13) && decide (13 = zNf 11) && (zTy 11 1).isReference) = true := by decide
theorem fr_11_2 : (decide (11 < 13) && decide (2 < 13) && decide (13 = zNf 11) && (zTy 11 2).isReference) = true := by decide
theorem fr_11_3 : (decide (11 < 13) && decide (3 < 13) && decide (13 = zNf 11) && (zTy 11 3).isReference) = true := by decide
theorem fr_11_4 : (decide (11 < 13) && decide (4 < 13) && decide (13 = zNf 11) && (zTy 11 4).isReference) = true := by decide
theorem fr_11_5 : (decide (11 < 13) && decide (5 < 13) && decide (13 = zNf 11) && (zTy 11 5).isReference) = true := by decide
theorem fr_11_6 : (decide (11 < 13) && decide (6 < 13) && decide (13 = zNf 11) && (zTy 11 6).isReference) = true := by decide
theorem fr_11_7 : (decide (11 < 13) && decide (7 < 13) && decide (13 = zNf 11) && (zTy 11 7).isReference) = true := by decide
theorem fr_11_8 : (decide (11 < 13) && decide (8 < 13) && decide (13 = zNf 11) && (zTy 11 8).isReference) = true := by decide
theorem fr_11_9 : (decide (11 < 13) && decide (9 < 13) && decide (13 = zNf 11) && (zTy 11 9).isReference) = true := by decide
theorem fr_11_10 : (decide (11 < 13) && decide (10 < 13) && decide (13 = zNf 11) && (zTy 11 10).isReference) = true := by decide
theorem fr_11_11 : (decide (11 < 13) && decide (11 < 13) && decide (13 = zNf 11) && (zTy 11 11).isReference) = true := by decide
theorem fr_11_12 : (decide (11 < 13) && decide (12 < 13) && decide (13 = zNf 11) && (zTy 11 12).isReference) = true := by decide
theorem fr_12_0 : (decide (12 < 13) && decide (0 < 34) && decide (34 = zNf 12) && (zTy 12 0).isReference) = true := by decide
theorem fi_12_1 : (decide (12 < 13) && decide (1 < 34) && decide (34 = zNf 12) && !(zTy 12 1).isReference) = true := by decide
theorem fp_12_1 : (decide (12 < 13) && decide (1 < 34) && decide (34 = zNf 12) && !(zTy 12 1).isReference && !(zTb 12 1).2.2.2) = true := by decide
theorem fr_12_2 : (decide (12 < 13) && decide (2 < 34) && decide (34 = zNf 12) && (zTy 12 2).isReference) = true := by decide
theorem fr_12_3 : (decide (12 < 13) && decide (3 < 34) && decide (34 = zNf 12) && (zTy 12 3).isReference) = true := by decide
theorem fr_12_4 : (decide (12 < 13) && decide (4 < 34) && decide (34 = zNf 12) && (zTy 12 4).isReference) = true := by decide
theorem fr_12_5 : (decide (12 < 13) && decide (5 < 34) && decide (34 = zNf 12) && (zTy 12 5).isReference) = true := by decide
theorem fr_12_6 : (decide (12 < 13) && decide (6 < 34) && decide (34 = zNf 12) && (zTy 12 6).isReference) = true := by decide
theorem fr_12_7 : (decide (12 < 13) && decide (7 < 34) && decide (34 = zNf 12) && (zTy 12 7).isReference) = true := by decide
theorem fr_12_8 : (decide (12 < 13) && decide (8 < 34) && decide (34 = zNf 12) && (zTy 12 8).isReference) = true := by decide
theorem fr_12_9 : (decide (12 < 13) && decide (9 < 34) && decide (34 = zNf 12) && (zTy 12 9).isReference) = true := by decide
theorem fr_12_10 : (decide (12 < 13) && decide (10 < 34) && decide (34 = zNf 12) && (zTy 12 10).isReference) = true := by decide
theorem fr_12_11 : (decide (12 < 13) && decide (11 < 34) && decide (34 = zNf 12) && (zTy 12 11).isReference) = true := by decide
theorem fr_12_12 : (decide (12 < 13) && decide (12 < 34) && decide (34 = zNf 12) && (zTy 12 12).isReference) = true := by decide
theorem fi_12_13 : (decide (12 < 13) && decide (13 < 34) && decide (34 = zNf 12) && !(zTy 12 13).isReference) = true := by decide
theorem fp_12_13 : (decide (12 < 13) && decide (13 < 34) && decide (34 = zNf 12) && !(zTy 12 13).isReference && !(zTb 12 13).2.2.2) = true := by decide
theorem fi_12_14 : (decide (12 < 13) && decide (14 < 34) && decide (34 = zNf 12) && !(zTy 12 14).isReference) = true := by decide
theorem fp_12_14 : (decide (12 < 13) && decide (14 < 34) && decide (34 = zNf 12) && !(zTy 12 14).isReference && !(zTb 12 14).2.2.2) = true := by decide
theorem fi_12_15 : (decide (12 < 13) && decide (15 < 34) && decide (34 = zNf 12) && !(zTy 12 15).isReference) = true := by decide
theorem fp_12_15 : (decide (12 < 13) && decide (15 < 34) && decide (34 = zNf 12) && !(zTy 12 15).isReference && !(zTb 12 15).2.2.2) = true := by decide
theorem fi_12_16 : (decide (12 < 13) && decide (16 < 34) && decide (34 = zNf 12) && !(zTy 12 16).isReference) = true := by decide
theorem fp_12_16 : (decide (12 < 13) && decide (16 < 34) && decide (34 = zNf 12) && !(zTy 12 16).isReference && !(zTb 12 16).2.2.2) = true := by decide
theorem fr_12_17 : (decide (12 < 13) && decide (17 < 34) && decide (34 = zNf 12) && (zTy 12 17).isReference) = true := by decide
theorem fi_12_18 : (decide (12 < 13) && decide (18 < 34) && decide (34 = zNf 12) && !(zTy 12 18).isReference) = true := by decide
theorem fp_12_18 : (decide (12 < 13) && decide (18 < 34) && decide (34 = zNf 12) && !(zTy 12 18).isReference && !(zTb 12 18).2.2.2) = true := by decide
theorem fi_12_19 : (decide (12 < 13) && decide (19 < 34) && decide (34 = zNf 12) && !(zTy 12 19).isReference) = true := by decide
theorem fp_12_19 : (decide (12 < 13) && decide (19 < 34) && decide (34 = zNf 12) && !(zTy 12 19).isReference && !(zTb 12 19).2.2.2) = true := by decide
theorem fr_12_20 : (decide (12 < 13) && decide (20 < 34) && decide (34 = zNf 12) && (zTy 12 20).isReference) = true := by decide
theorem fr_12_21 : (decide (12 < 13) && decide (21 < 34) && decide (34 = zNf 12) && (zTy 12 21).isReference) = true := by decide
theorem fr_12_22 : (decide (12 < 13) && decide (22 < 34) && decide (34 = zNf 12) && (zTy 12 22).isReference) = true := by decide
theorem fi_12_23 : (decide (12 < 13) && decide (23 < 34) && decide (34 = zNf 12) && !(zTy 12 23).isReference) = true := by decide
theorem fp_12_23 : (decide (12 < 13) && decide (23 < 34) && decide (34 = zNf 12) && !(zTy 12 23).isReference && !(zTb 12 23).2.2.2) = true := by decide
theorem fi_12_24 : (decide (12 < 13) && decide (24 < 34) && decide (34 = zNf 12) && !(zTy 12 24).isReference) = true := by decide
theorem fp_12_24 : (decide (12 < 13) && decide (24 < 34) && decide (34 = zNf 12) && !(zTy 12 24).isReference && !(zTb 12 24).2.2.2) = true := by decide
theorem fi_12_25 : (decide (12 < 13) && decide (25 < 34) && decide (34 = zNf 12) && !(zTy 12 25).isReference) = true := by decide
theorem fp_12_25 : (decide (12 < 13) && decide (25 < 34) && decide (34 = zNf 12) && !(zTy 12 25).isReference && !(zTb 12 25).2.2.2) = true := by decide
theorem fi_12_26 : (decide (12 < 13) && decide (26 < 34) && decide (34 = zNf 12) && !(zTy 12 26).isReference) = true := by decide
theorem fp_12_26 : (decide (12 < 13) && decide (26 < 34) && decide (34 = zNf 12) && !(zTy 12 26).isReference && !(zTb 12 26).2.2.2) = true := by decide
theorem fi_12_27 : (decide (12 < 13) && decide (27 < 34) && decide (34 = zNf 12) && !(zTy 12 27).isReference) = true := by decide
theorem fp_12_27 : (decide (12 < 13) && decide (27 < 34) && decide (34 = zNf 12) && !(zTy 12 27).isReference && !(zTb 12 27).2.2.2) = true := by decide
theorem fr_12_28 : (decide (12 < 13) && decide (28 < 34) && decide (34 = zNf 12) && (zTy 12 28).isReference) = true := by decide
theorem fr_12_29 : (decide (12 < 13) && decide (29 < 34) && decide (34 = zNf 12) && (zTy 12 29).isReference) = true := by decide
theorem fr_12_30 : (decide (12 < 13) && decide (30 < 34) && decide (34 = zNf 12) && (zTy 12 30).isReference) = true := by decide
theorem fr_12_31 : (decide (12 < 13) && decide (31 < 34) && decide (34 = zNf 12) && (zTy 12 31).isReference) = true := by decide
theorem fr_12_32 : (decide (12 < 13) && decide (32 < 34) && decide (34 = zNf 12) && (zTy 12 32).isReference) = true := by decide
theorem fi_12_33 : (decide (12 < 13) && decide (33 < 34) && decide (34 = zNf 12) && !(zTy 12 33).isReference) = true := by decide
theorem fp_12_33 : (decide (12 < 13) && decide (33 < 34) && decide (34 = zNf 12) && !(zTy 12 33).isReference && !(zTb 12 33).2.2.2) = true := by decide
/-! the judgement with a postcondition -/
def ZP (l : Launch) (D : va_G) (M : ZM) (pc : Nat) (L : List (Option Value)) (S : List Value) (I : AI) (F : AR) (Post : Option Int32 → AI → AR → Prop) : Prop := ∃ (v : Option Int32) (I' : AI) (F' : AR), ZR l D M pc L S I F SH v I' F' SH ∧ Post v I' F'
section PRows
variable {l : Launch} {D : va_G} {M : ZM} {pc : Nat} {L : List (Option Value)} {S : List Value} {I : AI} {F : AR} {Post : Option Int32 → AI → AR → Prop}
/-- a truth as an int -/
def zb (b : Bool) : Int32 := if b = true then 1 else 0
theorem zret_b (b : Bool) : zRet (some .boolean) (some (zb b)) := Or.inr ⟨.boolean, rfl, by cases b <;> rfl⟩
theorem zret_i (x : Int32) : zRet (some .int) (some x) := Or.inl rfl
theorem zret_v : zRet none none := rfl
theorem P_iret {x : Int32} (hd : decode M.2.1 pc = .ok (.ireturn, 1)) (h : Post (some x) I F) : ZP l D M pc L [.int x] I F Post := ⟨_, _, _, R_iret hd, h⟩
theorem P_ret (hd : decode M.2.1 pc = .ok (.return_, 1)) (h : Post none I F) : ZP l D M pc L [] I F Post := ⟨_, _, _, R_ret hd, h⟩
theorem P_top {x y : Int32} (h : x = y) (k : ZP l D M pc L (.int y :: S) I F Post) : ZP l D M pc L (.int x :: S) I F Post := h ▸ k
theorem P_mem {J : AI} (h : I = J) (k : ZP l D M pc L S J F Post) : ZP l D M pc L S I F Post := h ▸ k

theorem P_iadd {x y : Int32} (hd : decode M.2.1 pc = .ok (.iadd, 1))  (k : ZP l D M (pc + 1) L (.int (x + y) :: S) I F Post) : ZP l D M (pc) L (.int y :: .int x :: S) I F Post := by
  obtain ⟨v9, I9, F9, h9, hp9⟩ := k
  exact ⟨v9, I9, F9, R_iadd hd h9, hp9⟩
theorem P_isub {x y : Int32} (hd : decode M.2.1 pc = .ok (.isub, 1))  (k : ZP l D M (pc + 1) L (.int (x - y) :: S) I F Post) : ZP l D M (pc) L (.int y :: .int x :: S) I F Post := by
  obtain ⟨v9, I9, F9, h9, hp9⟩ := k
  exact ⟨v9, I9, F9, R_isub hd h9, hp9⟩
theorem P_imul {x y : Int32} (hd : decode M.2.1 pc = .ok (.imul, 1))  (k : ZP l D M (pc + 1) L (.int (x * y) :: S) I F Post) : ZP l D M (pc) L (.int y :: .int x :: S) I F Post := by
  obtain ⟨v9, I9, F9, h9, hp9⟩ := k
  exact ⟨v9, I9, F9, R_imul hd h9, hp9⟩
theorem P_iand {x y : Int32} (hd : decode M.2.1 pc = .ok (.iand, 1))  (k : ZP l D M (pc + 1) L (.int (x &&& y) :: S) I F Post) : ZP l D M (pc) L (.int y :: .int x :: S) I F Post := by
  obtain ⟨v9, I9, F9, h9, hp9⟩ := k
  exact ⟨v9, I9, F9, R_iand hd h9, hp9⟩
theorem P_ior {x y : Int32} (hd : decode M.2.1 pc = .ok (.ior, 1))  (k : ZP l D M (pc + 1) L (.int (x ||| y) :: S) I F Post) : ZP l D M (pc) L (.int y :: .int x :: S) I F Post := by
  obtain ⟨v9, I9, F9, h9, hp9⟩ := k
  exact ⟨v9, I9, F9, R_ior hd h9, hp9⟩
theorem P_ishl {x y : Int32} (hd : decode M.2.1 pc = .ok (.ishl, 1))  (k : ZP l D M (pc + 1) L (.int (x <<< (y &&& 31)) :: S) I F Post) : ZP l D M (pc) L (.int y :: .int x :: S) I F Post := by
  obtain ⟨v9, I9, F9, h9, hp9⟩ := k
  exact ⟨v9, I9, F9, R_ishl hd h9, hp9⟩
theorem P_ishr {x y : Int32} (hd : decode M.2.1 pc = .ok (.ishr, 1))  (k : ZP l D M (pc + 1) L (.int (x >>> (y &&& 31)) :: S) I F Post) : ZP l D M (pc) L (.int y :: .int x :: S) I F Post := by
  obtain ⟨v9, I9, F9, h9, hp9⟩ := k
  exact ⟨v9, I9, F9, R_ishr hd h9, hp9⟩
theorem P_idiv {x y : Int32} (hd : decode M.2.1 pc = .ok (.idiv, 1)) (hne : ¬ y = 0) (k : ZP l D M (pc + 1) L (.int (x / y) :: S) I F Post) : ZP l D M (pc) L (.int y :: .int x :: S) I F Post := by
  obtain ⟨v9, I9, F9, h9, hp9⟩ := k
  exact ⟨v9, I9, F9, R_idiv hd hne h9, hp9⟩
theorem P_irem {x y : Int32} (hd : decode M.2.1 pc = .ok (.irem, 1)) (hne : ¬ y = 0) (k : ZP l D M (pc + 1) L (.int (x - x / y * y) :: S) I F Post) : ZP l D M (pc) L (.int y :: .int x :: S) I F Post := by
  obtain ⟨v9, I9, F9, h9, hp9⟩ := k
  exact ⟨v9, I9, F9, R_irem hd hne h9, hp9⟩
theorem P_ladd {x y : Int64} (hd : decode M.2.1 pc = .ok (.ladd, 1))  (k : ZP l D M (pc + 1) L (.long (x + y) :: S) I F Post) : ZP l D M (pc) L (.long y :: .long x :: S) I F Post := by
  obtain ⟨v9, I9, F9, h9, hp9⟩ := k
  exact ⟨v9, I9, F9, R_ladd hd h9, hp9⟩
theorem P_lmul {x y : Int64} (hd : decode M.2.1 pc = .ok (.lmul, 1))  (k : ZP l D M (pc + 1) L (.long (x * y) :: S) I F Post) : ZP l D M (pc) L (.long y :: .long x :: S) I F Post := by
  obtain ⟨v9, I9, F9, h9, hp9⟩ := k
  exact ⟨v9, I9, F9, R_lmul hd h9, hp9⟩
theorem P_lrem {x y : Int64} (hd : decode M.2.1 pc = .ok (.lrem, 1)) (hne : ¬ y = 0) (k : ZP l D M (pc + 1) L (.long (x - x / y * y) :: S) I F Post) : ZP l D M (pc) L (.long y :: .long x :: S) I F Post := by
  obtain ⟨v9, I9, F9, h9, hp9⟩ := k
  exact ⟨v9, I9, F9, R_lrem hd hne h9, hp9⟩
theorem P_i2l {x : Int32} (hd : decode M.2.1 pc = .ok (.i2l, 1))  (k : ZP l D M (pc + 1) L (.long x.toInt64 :: S) I F Post) : ZP l D M (pc) L (.int x :: S) I F Post := by
  obtain ⟨v9, I9, F9, h9, hp9⟩ := k
  exact ⟨v9, I9, F9, R_i2l hd h9, hp9⟩
theorem P_l2i {x : Int64} (hd : decode M.2.1 pc = .ok (.l2i, 1))  (k : ZP l D M (pc + 1) L (.int x.toInt32 :: S) I F Post) : ZP l D M (pc) L (.long x :: S) I F Post := by
  obtain ⟨v9, I9, F9, h9, hp9⟩ := k
  exact ⟨v9, I9, F9, R_l2i hd h9, hp9⟩
theorem P_i2b {x : Int32} (hd : decode M.2.1 pc = .ok (.i2b, 1))  (k : ZP l D M (pc + 1) L (.int x.toInt8.toInt32 :: S) I F Post) : ZP l D M (pc) L (.int x :: S) I F Post := by
  obtain ⟨v9, I9, F9, h9, hp9⟩ := k
  exact ⟨v9, I9, F9, R_i2b hd h9, hp9⟩
theorem P_i2c {x : Int32} (hd : decode M.2.1 pc = .ok (.i2c, 1))  (k : ZP l D M (pc + 1) L (.int (x.toUInt32 % 65536).toInt32 :: S) I F Post) : ZP l D M (pc) L (.int x :: S) I F Post := by
  obtain ⟨v9, I9, F9, h9, hp9⟩ := k
  exact ⟨v9, I9, F9, R_i2c hd h9, hp9⟩
theorem P_dup {a : Value} (hd : decode M.2.1 pc = .ok (.dup, 1)) (ha : a.category = 1) (k : ZP l D M (pc + 1) L (a :: a :: S) I F Post) : ZP l D M (pc) L (a :: S) I F Post := by
  obtain ⟨v9, I9, F9, h9, hp9⟩ := k
  exact ⟨v9, I9, F9, R_dup hd ha h9, hp9⟩
theorem P_pop {a : Value} (hd : decode M.2.1 pc = .ok (.pop, 1)) (ha : a.category = 1) (k : ZP l D M (pc + 1) L (S) I F Post) : ZP l D M (pc) L (a :: S) I F Post := by
  obtain ⟨v9, I9, F9, h9, hp9⟩ := k
  exact ⟨v9, I9, F9, R_pop hd ha h9, hp9⟩
theorem P_dup2 {a b : Value} (hd : decode M.2.1 pc = .ok (.dup2, 1)) (ha : a.category = 1) (hb : b.category = 1) (k : ZP l D M (pc + 1) L (a :: b :: a :: b :: S) I F Post) : ZP l D M (pc) L (a :: b :: S) I F Post := by
  obtain ⟨v9, I9, F9, h9, hp9⟩ := k
  exact ⟨v9, I9, F9, R_dup2 hd ha hb h9, hp9⟩
theorem P_dup2l {a : Value} (hd : decode M.2.1 pc = .ok (.dup2, 1)) (ha : a.category = 2) (k : ZP l D M (pc + 1) L (a :: a :: S) I F Post) : ZP l D M (pc) L (a :: S) I F Post := by
  obtain ⟨v9, I9, F9, h9, hp9⟩ := k
  exact ⟨v9, I9, F9, R_dup2l hd ha h9, hp9⟩
theorem P_iconst {n : Int} {x : Int32} (hd : decode M.2.1 pc = .ok (.iconst n, 1)) (hv : Int32.ofInt n = x) (k : ZP l D M (pc + 1) L (.int x :: S) I F Post) : ZP l D M (pc) L (S) I F Post := by
  obtain ⟨v9, I9, F9, h9, hp9⟩ := k
  exact ⟨v9, I9, F9, R_iconst hd hv h9, hp9⟩
theorem P_bipush {n : Int} {x : Int32} (hd : decode M.2.1 pc = .ok (.bipush n, 2)) (hv : (Int8.ofInt n).toInt32 = x) (k : ZP l D M (pc + 2) L (.int x :: S) I F Post) : ZP l D M (pc) L (S) I F Post := by
  obtain ⟨v9, I9, F9, h9, hp9⟩ := k
  exact ⟨v9, I9, F9, R_bipush hd hv h9, hp9⟩
theorem P_sipush {n : Int} {x : Int32} (hd : decode M.2.1 pc = .ok (.sipush n, 3)) (hv : (Int16.ofInt n).toInt32 = x) (k : ZP l D M (pc + 3) L (.int x :: S) I F Post) : ZP l D M (pc) L (S) I F Post := by
  obtain ⟨v9, I9, F9, h9, hp9⟩ := k
  exact ⟨v9, I9, F9, R_sipush hd hv h9, hp9⟩
theorem P_lconst {n : Fin 2} {x : Int64} (hd : decode M.2.1 pc = .ok (.lconst n, 1)) (hv : Int64.ofNat (n : Nat) = x) (k : ZP l D M (pc + 1) L (.long x :: S) I F Post) : ZP l D M (pc) L (S) I F Post := by
  obtain ⟨v9, I9, F9, h9, hp9⟩ := k
  exact ⟨v9, I9, F9, R_lconst hd hv h9, hp9⟩
theorem P_ldc2 {n : Nat} {x : Int64} (hd : decode M.2.1 pc = .ok (.ldc2_w n, 3)) (hv : Cond.constantLong M.1.cls n x ∈ zT) (k : ZP l D M (pc + 3) L (.long x :: S) I F Post) : ZP l D M (pc) L (S) I F Post := by
  obtain ⟨v9, I9, F9, h9, hp9⟩ := k
  exact ⟨v9, I9, F9, R_ldc2 hd hv h9, hp9⟩
theorem P_iload_n {n : Fin 4} {x : Int32} (hd : decode M.2.1 pc = .ok (.iload_n n, 1)) (hL : L[(n : Nat)]? = some (some (.int x))) (k : ZP l D M (pc + 1) L (.int x :: S) I F Post) : ZP l D M (pc) L (S) I F Post := by
  obtain ⟨v9, I9, F9, h9, hp9⟩ := k
  exact ⟨v9, I9, F9, R_iload_n hd hL h9, hp9⟩
theorem P_iload {n : Nat} {x : Int32} (hd : decode M.2.1 pc = .ok (.iload n, 2)) (hL : L[n]? = some (some (.int x))) (k : ZP l D M (pc + 2) L (.int x :: S) I F Post) : ZP l D M (pc) L (S) I F Post := by
  obtain ⟨v9, I9, F9, h9, hp9⟩ := k
  exact ⟨v9, I9, F9, R_iload hd hL h9, hp9⟩
theorem P_lload_n {n : Fin 4} {x : Int64} (hd : decode M.2.1 pc = .ok (.lload_n n, 1)) (hL : L[(n : Nat)]? = some (some (.long x))) (k : ZP l D M (pc + 1) L (.long x :: S) I F Post) : ZP l D M (pc) L (S) I F Post := by
  obtain ⟨v9, I9, F9, h9, hp9⟩ := k
  exact ⟨v9, I9, F9, R_lload_n hd hL h9, hp9⟩
theorem P_lload {n : Nat} {x : Int64} (hd : decode M.2.1 pc = .ok (.lload n, 2)) (hL : L[n]? = some (some (.long x))) (k : ZP l D M (pc + 2) L (.long x :: S) I F Post) : ZP l D M (pc) L (S) I F Post := by
  obtain ⟨v9, I9, F9, h9, hp9⟩ := k
  exact ⟨v9, I9, F9, R_lload hd hL h9, hp9⟩
theorem P_aload_n {n : Fin 4} {x : Nat} (hd : decode M.2.1 pc = .ok (.aload_n n, 1)) (hL : L[(n : Nat)]? = some (some (.ref x))) (k : ZP l D M (pc + 1) L (.ref x :: S) I F Post) : ZP l D M (pc) L (S) I F Post := by
  obtain ⟨v9, I9, F9, h9, hp9⟩ := k
  exact ⟨v9, I9, F9, R_aload_n hd hL h9, hp9⟩
theorem P_aload {n : Nat} {x : Nat} (hd : decode M.2.1 pc = .ok (.aload n, 2)) (hL : L[n]? = some (some (.ref x))) (k : ZP l D M (pc + 2) L (.ref x :: S) I F Post) : ZP l D M (pc) L (S) I F Post := by
  obtain ⟨v9, I9, F9, h9, hp9⟩ := k
  exact ⟨v9, I9, F9, R_aload hd hL h9, hp9⟩
theorem P_istore_n {n : Fin 4} {x : Int32} (hd : decode M.2.1 pc = .ok (.istore_n n, 1)) (hn : (n : Nat) < M.2.2.1) (hg : zlong L (n : Nat) = false) (k : ZP l D M (pc + 1) (L.set (n : Nat) (some (.int x))) (S) I F Post) : ZP l D M (pc) L (.int x :: S) I F Post := by
  obtain ⟨v9, I9, F9, h9, hp9⟩ := k
  exact ⟨v9, I9, F9, R_istore_n hd hn hg h9, hp9⟩
theorem P_istore {n : Nat} {x : Int32} (hd : decode M.2.1 pc = .ok (.istore n, 2)) (hn : n < M.2.2.1) (hg : zlong L n = false) (k : ZP l D M (pc + 2) (L.set n (some (.int x))) (S) I F Post) : ZP l D M (pc) L (.int x :: S) I F Post := by
  obtain ⟨v9, I9, F9, h9, hp9⟩ := k
  exact ⟨v9, I9, F9, R_istore hd hn hg h9, hp9⟩
theorem P_astore_n {n : Fin 4} {x : Nat} (hd : decode M.2.1 pc = .ok (.astore_n n, 1)) (hn : (n : Nat) < M.2.2.1) (hg : zlong L (n : Nat) = false) (k : ZP l D M (pc + 1) (L.set (n : Nat) (some (.ref x))) (S) I F Post) : ZP l D M (pc) L (.ref x :: S) I F Post := by
  obtain ⟨v9, I9, F9, h9, hp9⟩ := k
  exact ⟨v9, I9, F9, R_astore_n hd hn hg h9, hp9⟩
theorem P_astore {n : Nat} {x : Nat} (hd : decode M.2.1 pc = .ok (.astore n, 2)) (hn : n < M.2.2.1) (hg : zlong L n = false) (k : ZP l D M (pc + 2) (L.set n (some (.ref x))) (S) I F Post) : ZP l D M (pc) L (.ref x :: S) I F Post := by
  obtain ⟨v9, I9, F9, h9, hp9⟩ := k
  exact ⟨v9, I9, F9, R_astore hd hn hg h9, hp9⟩
theorem P_lstore_n {n : Fin 4} {x : Int64} (hd : decode M.2.1 pc = .ok (.lstore_n n, 1)) (hn : (n : Nat) + 1 < M.2.2.1) (hg : zlong L (n : Nat) = false) (k : ZP l D M (pc + 1) ((L.set (n : Nat) (some (.long x))).set ((n : Nat) + 1) none) (S) I F Post) : ZP l D M (pc) L (.long x :: S) I F Post := by
  obtain ⟨v9, I9, F9, h9, hp9⟩ := k
  exact ⟨v9, I9, F9, R_lstore_n hd hn hg h9, hp9⟩
theorem P_lstore {n : Nat} {x : Int64} (hd : decode M.2.1 pc = .ok (.lstore n, 2)) (hn : n + 1 < M.2.2.1) (hg : zlong L n = false) (k : ZP l D M (pc + 2) ((L.set n (some (.long x))).set (n + 1) none) (S) I F Post) : ZP l D M (pc) L (.long x :: S) I F Post := by
  obtain ⟨v9, I9, F9, h9, hp9⟩ := k
  exact ⟨v9, I9, F9, R_lstore hd hn hg h9, hp9⟩
theorem P_iinc {i : Nat} {n : Int} {x y : Int32} (hd : decode M.2.1 pc = .ok (.iinc i n, 3)) (hL : L[i]? = some (some (.int x))) (hv : x + Int32.ofInt n = y) (hn : i < M.2.2.1) (hg : zlong L i = false) (k : ZP l D M (pc + 3) (L.set i (some (.int y))) (S) I F Post) : ZP l D M (pc) L (S) I F Post := by
  obtain ⟨v9, I9, F9, h9, hp9⟩ := k
  exact ⟨v9, I9, F9, R_iinc hd hL hv hn hg h9, hp9⟩
theorem P_goto {off : Int} {tgt : Nat} (hd : decode M.2.1 pc = .ok (.goto off, 3)) (ht : (pc : Int) + off = (tgt : Int)) (k : ZP l D M (tgt) L (S) I F Post) : ZP l D M (pc) L (S) I F Post := by
  obtain ⟨v9, I9, F9, h9, hp9⟩ := k
  exact ⟨v9, I9, F9, R_goto hd ht h9, hp9⟩
theorem P_icmp_eq {x y : Int32} {off : Int} {tgt : Nat} (hd : decode M.2.1 pc = .ok (.if_icmp .eq off, 3)) (ht : (pc : Int) + off = (tgt : Int)) (kt : x = y → ZP l D M (tgt) L (S) I F Post) (kf : ¬ x = y → ZP l D M (pc + 3) L (S) I F Post) : ZP l D M (pc) L (.int y :: .int x :: S) I F Post := by
  by_cases hcc : x = y
  · obtain ⟨v9, I9, F9, h9, hp9⟩ := kt hcc
    exact ⟨v9, I9, F9, R_icmp_eq hd ht (fun _ => h9) (fun z => by first | exact absurd hcc z | exact absurd z hcc), hp9⟩
  · obtain ⟨v9, I9, F9, h9, hp9⟩ := kf (by first | exact hcc | simpa using hcc)
    exact ⟨v9, I9, F9, R_icmp_eq hd ht (fun z => absurd z hcc) (fun _ => h9), hp9⟩
theorem P_if_eq {x : Int32} {off : Int} {tgt : Nat} (hd : decode M.2.1 pc = .ok (.ifCond .eq off, 3)) (ht : (pc : Int) + off = (tgt : Int)) (kt : x = 0 → ZP l D M (tgt) L (S) I F Post) (kf : ¬ x = 0 → ZP l D M (pc + 3) L (S) I F Post) : ZP l D M (pc) L (.int x :: S) I F Post := by
  by_cases hcc : x = 0
  · obtain ⟨v9, I9, F9, h9, hp9⟩ := kt hcc
    exact ⟨v9, I9, F9, R_if_eq hd ht (fun _ => h9) (fun z => by first | exact absurd hcc z | exact absurd z hcc), hp9⟩
  · obtain ⟨v9, I9, F9, h9, hp9⟩ := kf (by first | exact hcc | simpa using hcc)
    exact ⟨v9, I9, F9, R_if_eq hd ht (fun z => absurd z hcc) (fun _ => h9), hp9⟩
theorem P_icmp_ne {x y : Int32} {off : Int} {tgt : Nat} (hd : decode M.2.1 pc = .ok (.if_icmp .ne off, 3)) (ht : (pc : Int) + off = (tgt : Int)) (kt : ¬ x = y → ZP l D M (tgt) L (S) I F Post) (kf : x = y → ZP l D M (pc + 3) L (S) I F Post) : ZP l D M (pc) L (.int y :: .int x :: S) I F Post := by
  by_cases hcc : ¬ x = y
  · obtain ⟨v9, I9, F9, h9, hp9⟩ := kt hcc
    exact ⟨v9, I9, F9, R_icmp_ne hd ht (fun _ => h9) (fun z => by first | exact absurd hcc z | exact absurd z hcc), hp9⟩
  · obtain ⟨v9, I9, F9, h9, hp9⟩ := kf (by first | exact hcc | simpa using hcc)
    exact ⟨v9, I9, F9, R_icmp_ne hd ht (fun z => absurd z hcc) (fun _ => h9), hp9⟩
theorem P_if_ne {x : Int32} {off : Int} {tgt : Nat} (hd : decode M.2.1 pc = .ok (.ifCond .ne off, 3)) (ht : (pc : Int) + off = (tgt : Int)) (kt : ¬ x = 0 → ZP l D M (tgt) L (S) I F Post) (kf : x = 0 → ZP l D M (pc + 3) L (S) I F Post) : ZP l D M (pc) L (.int x :: S) I F Post := by
  by_cases hcc : ¬ x = 0
  · obtain ⟨v9, I9, F9, h9, hp9⟩ := kt hcc
    exact ⟨v9, I9, F9, R_if_ne hd ht (fun _ => h9) (fun z => by first | exact absurd hcc z | exact absurd z hcc), hp9⟩
  · obtain ⟨v9, I9, F9, h9, hp9⟩ := kf (by first | exact hcc | simpa using hcc)
    exact ⟨v9, I9, F9, R_if_ne hd ht (fun z => absurd z hcc) (fun _ => h9), hp9⟩
theorem P_icmp_lt {x y : Int32} {off : Int} {tgt : Nat} (hd : decode M.2.1 pc = .ok (.if_icmp .lt off, 3)) (ht : (pc : Int) + off = (tgt : Int)) (kt : x < y → ZP l D M (tgt) L (S) I F Post) (kf : ¬ x < y → ZP l D M (pc + 3) L (S) I F Post) : ZP l D M (pc) L (.int y :: .int x :: S) I F Post := by
  by_cases hcc : x < y
  · obtain ⟨v9, I9, F9, h9, hp9⟩ := kt hcc
    exact ⟨v9, I9, F9, R_icmp_lt hd ht (fun _ => h9) (fun z => by first | exact absurd hcc z | exact absurd z hcc), hp9⟩
  · obtain ⟨v9, I9, F9, h9, hp9⟩ := kf (by first | exact hcc | simpa using hcc)
    exact ⟨v9, I9, F9, R_icmp_lt hd ht (fun z => absurd z hcc) (fun _ => h9), hp9⟩
theorem P_if_lt {x : Int32} {off : Int} {tgt : Nat} (hd : decode M.2.1 pc = .ok (.ifCond .lt off, 3)) (ht : (pc : Int) + off = (tgt : Int)) (kt : x < 0 → ZP l D M (tgt) L (S) I F Post) (kf : ¬ x < 0 → ZP l D M (pc + 3) L (S) I F Post) : ZP l D M (pc) L (.int x :: S) I F Post := by
  by_cases hcc : x < 0
  · obtain ⟨v9, I9, F9, h9, hp9⟩ := kt hcc
    exact ⟨v9, I9, F9, R_if_lt hd ht (fun _ => h9) (fun z => by first | exact absurd hcc z | exact absurd z hcc), hp9⟩
  · obtain ⟨v9, I9, F9, h9, hp9⟩ := kf (by first | exact hcc | simpa using hcc)
    exact ⟨v9, I9, F9, R_if_lt hd ht (fun z => absurd z hcc) (fun _ => h9), hp9⟩
theorem P_icmp_ge {x y : Int32} {off : Int} {tgt : Nat} (hd : decode M.2.1 pc = .ok (.if_icmp .ge off, 3)) (ht : (pc : Int) + off = (tgt : Int)) (kt : y ≤ x → ZP l D M (tgt) L (S) I F Post) (kf : ¬ y ≤ x → ZP l D M (pc + 3) L (S) I F Post) : ZP l D M (pc) L (.int y :: .int x :: S) I F Post := by
  by_cases hcc : y ≤ x
  · obtain ⟨v9, I9, F9, h9, hp9⟩ := kt hcc
    exact ⟨v9, I9, F9, R_icmp_ge hd ht (fun _ => h9) (fun z => by first | exact absurd hcc z | exact absurd z hcc), hp9⟩
  · obtain ⟨v9, I9, F9, h9, hp9⟩ := kf (by first | exact hcc | simpa using hcc)
    exact ⟨v9, I9, F9, R_icmp_ge hd ht (fun z => absurd z hcc) (fun _ => h9), hp9⟩
theorem P_if_ge {x : Int32} {off : Int} {tgt : Nat} (hd : decode M.2.1 pc = .ok (.ifCond .ge off, 3)) (ht : (pc : Int) + off = (tgt : Int)) (kt : 0 ≤ x → ZP l D M (tgt) L (S) I F Post) (kf : ¬ 0 ≤ x → ZP l D M (pc + 3) L (S) I F Post) : ZP l D M (pc) L (.int x :: S) I F Post := by
  by_cases hcc : 0 ≤ x
  · obtain ⟨v9, I9, F9, h9, hp9⟩ := kt hcc
    exact ⟨v9, I9, F9, R_if_ge hd ht (fun _ => h9) (fun z => by first | exact absurd hcc z | exact absurd z hcc), hp9⟩
  · obtain ⟨v9, I9, F9, h9, hp9⟩ := kf (by first | exact hcc | simpa using hcc)
    exact ⟨v9, I9, F9, R_if_ge hd ht (fun z => absurd z hcc) (fun _ => h9), hp9⟩
theorem P_icmp_gt {x y : Int32} {off : Int} {tgt : Nat} (hd : decode M.2.1 pc = .ok (.if_icmp .gt off, 3)) (ht : (pc : Int) + off = (tgt : Int)) (kt : y < x → ZP l D M (tgt) L (S) I F Post) (kf : ¬ y < x → ZP l D M (pc + 3) L (S) I F Post) : ZP l D M (pc) L (.int y :: .int x :: S) I F Post := by
  by_cases hcc : y < x
  · obtain ⟨v9, I9, F9, h9, hp9⟩ := kt hcc
    exact ⟨v9, I9, F9, R_icmp_gt hd ht (fun _ => h9) (fun z => by first | exact absurd hcc z | exact absurd z hcc), hp9⟩
  · obtain ⟨v9, I9, F9, h9, hp9⟩ := kf (by first | exact hcc | simpa using hcc)
    exact ⟨v9, I9, F9, R_icmp_gt hd ht (fun z => absurd z hcc) (fun _ => h9), hp9⟩
theorem P_if_gt {x : Int32} {off : Int} {tgt : Nat} (hd : decode M.2.1 pc = .ok (.ifCond .gt off, 3)) (ht : (pc : Int) + off = (tgt : Int)) (kt : 0 < x → ZP l D M (tgt) L (S) I F Post) (kf : ¬ 0 < x → ZP l D M (pc + 3) L (S) I F Post) : ZP l D M (pc) L (.int x :: S) I F Post := by
  by_cases hcc : 0 < x
  · obtain ⟨v9, I9, F9, h9, hp9⟩ := kt hcc
    exact ⟨v9, I9, F9, R_if_gt hd ht (fun _ => h9) (fun z => by first | exact absurd hcc z | exact absurd z hcc), hp9⟩
  · obtain ⟨v9, I9, F9, h9, hp9⟩ := kf (by first | exact hcc | simpa using hcc)
    exact ⟨v9, I9, F9, R_if_gt hd ht (fun z => absurd z hcc) (fun _ => h9), hp9⟩
theorem P_icmp_le {x y : Int32} {off : Int} {tgt : Nat} (hd : decode M.2.1 pc = .ok (.if_icmp .le off, 3)) (ht : (pc : Int) + off = (tgt : Int)) (kt : x ≤ y → ZP l D M (tgt) L (S) I F Post) (kf : ¬ x ≤ y → ZP l D M (pc + 3) L (S) I F Post) : ZP l D M (pc) L (.int y :: .int x :: S) I F Post := by
  by_cases hcc : x ≤ y
  · obtain ⟨v9, I9, F9, h9, hp9⟩ := kt hcc
    exact ⟨v9, I9, F9, R_icmp_le hd ht (fun _ => h9) (fun z => by first | exact absurd hcc z | exact absurd z hcc), hp9⟩
  · obtain ⟨v9, I9, F9, h9, hp9⟩ := kf (by first | exact hcc | simpa using hcc)
    exact ⟨v9, I9, F9, R_icmp_le hd ht (fun z => absurd z hcc) (fun _ => h9), hp9⟩
theorem P_if_le {x : Int32} {off : Int} {tgt : Nat} (hd : decode M.2.1 pc = .ok (.ifCond .le off, 3)) (ht : (pc : Int) + off = (tgt : Int)) (kt : x ≤ 0 → ZP l D M (tgt) L (S) I F Post) (kf : ¬ x ≤ 0 → ZP l D M (pc + 3) L (S) I F Post) : ZP l D M (pc) L (.int x :: S) I F Post := by
  by_cases hcc : x ≤ 0
  · obtain ⟨v9, I9, F9, h9, hp9⟩ := kt hcc
    exact ⟨v9, I9, F9, R_if_le hd ht (fun _ => h9) (fun z => by first | exact absurd hcc z | exact absurd z hcc), hp9⟩
  · obtain ⟨v9, I9, F9, h9, hp9⟩ := kf (by first | exact hcc | simpa using hcc)
    exact ⟨v9, I9, F9, R_if_le hd ht (fun z => absurd z hcc) (fun _ => h9), hp9⟩
theorem P_lookup {dflt : Int} {ps : Array (Int × Int)} {len : Nat} {x : Int32} {off : Int} {tgt : Nat} (hd : decode M.2.1 pc = .ok (.lookupswitch dflt ps, len)) (hp : (ps.toList.zip (ps.toList.drop 1)).all (fun (a, next) => a.1 < next.1) = true) (ho : Op.lookupswitch.offset ps.toList dflt x.toInt = off) (ht : (pc : Int) + off = (tgt : Int)) (k : ZP l D M (tgt) L (S) I F Post) : ZP l D M (pc) L (.int x :: S) I F Post := by
  obtain ⟨v9, I9, F9, h9, hp9⟩ := k
  exact ⟨v9, I9, F9, R_lookup hd hp ho ht h9, hp9⟩
theorem P_tableOut {dflt lo hi : Int} {offs : Array Int} {len : Nat} {x : Int32} {tgt : Nat} (hd : decode M.2.1 pc = .ok (.tableswitch dflt lo hi offs, len)) (h : x.toInt < lo ∨ hi < x.toInt) (ht : (pc : Int) + dflt = (tgt : Int)) (k : ZP l D M (tgt) L (S) I F Post) : ZP l D M (pc) L (.int x :: S) I F Post := by
  obtain ⟨v9, I9, F9, h9, hp9⟩ := k
  exact ⟨v9, I9, F9, R_tableOut hd h ht h9, hp9⟩
theorem P_tableIn {dflt lo hi : Int} {offs : Array Int} {len : Nat} {x : Int32} {off : Int} {tgt : Nat} (hd : decode M.2.1 pc = .ok (.tableswitch dflt lo hi offs, len)) (h1 : ¬ x.toInt < lo) (h2 : ¬ hi < x.toInt) (ho : offs[(x.toInt - lo).toNat]? = some off) (ht : (pc : Int) + off = (tgt : Int)) (k : ZP l D M (tgt) L (S) I F Post) : ZP l D M (pc) L (.int x :: S) I F Post := by
  obtain ⟨v9, I9, F9, h9, hp9⟩ := k
  exact ⟨v9, I9, F9, R_tableIn hd h1 h2 ho ht h9, hp9⟩
theorem P_geti {idx a : Nat} (c k : Nat) {n : Nat} {x : Int32} (hd : decode M.2.1 pc = .ok (.getfield idx, 3)) (hf : zFl M.1.cls idx c k) (hs : SH[a]? = some (c, n)) (hc : (decide (c < 13) && decide (k < n) && decide (n = zNf c) && !(zTy c k).isReference) = true) (hx : I a k = x) (kk : ZP l D M (pc + 3) L (.int x :: S) I F Post) : ZP l D M pc L (.ref a :: S) I F Post := by
  obtain ⟨v9, I9, F9, h9, hp9⟩ := kk
  exact ⟨v9, I9, F9, R_geti c k hd hf hs hc hx h9, hp9⟩
theorem P_getr {idx a : Nat} (c k : Nat) {n b : Nat} (hd : decode M.2.1 pc = .ok (.getfield idx, 3)) (hf : zFl M.1.cls idx c k) (hs : SH[a]? = some (c, n)) (hc : (decide (c < 13) && decide (k < n) && decide (n = zNf c) && (zTy c k).isReference) = true) (hx : F a k = some b) (kk : ZP l D M (pc + 3) L (.ref b :: S) I F Post) : ZP l D M pc L (.ref a :: S) I F Post := by
  obtain ⟨v9, I9, F9, h9, hp9⟩ := kk
  exact ⟨v9, I9, F9, R_getr c k hd hf hs hc hx h9, hp9⟩
theorem P_puti {idx a : Nat} (c k : Nat) {n : Nat} {x : Int32} (hd : decode M.2.1 pc = .ok (.putfield idx, 3)) (hf : zFl M.1.cls idx c k) (hs : SH[a]? = some (c, n)) (hc : (decide (c < 13) && decide (k < n) && decide (n = zNf c) && !(zTy c k).isReference && !(zTb c k).2.2.2) = true) (hn : narrow (zTy c k) (.int x) = .int x) (hfit : fits (zTy c k) (.int x) = true) (kk : ZP l D M (pc + 3) L S (zu I a k x) F Post) : ZP l D M pc L (.int x :: .ref a :: S) I F Post := by
  obtain ⟨v9, I9, F9, h9, hp9⟩ := kk
  exact ⟨v9, I9, F9, R_puti c k hd hf hs hc hn hfit h9, hp9⟩
theorem P_iald {a n : Nat} {i : Int32} {x : Int32} (j : Nat) (hd : decode M.2.1 pc = .ok (.iaload, 1)) (hs : SH[a]? = some (15, n)) (hi : i = nI j) (hj : j < n) (hn : n < 2 ^ 31) (hx : I a j = x) (kk : ZP l D M (pc + 1) L (.int x :: S) I F Post) : ZP l D M pc L (.int i :: .ref a :: S) I F Post := by
  obtain ⟨v9, I9, F9, h9, hp9⟩ := kk
  exact ⟨v9, I9, F9, R_iald j hd hs hi hj hn hx h9, hp9⟩
theorem P_bald {a n : Nat} {i : Int32} {x : Int32} (j : Nat) (hd : decode M.2.1 pc = .ok (.baload, 1)) (hs : SH[a]? = some (13, n)) (hi : i = nI j) (hj : j < n) (hn : n < 2 ^ 31) (hx : I a j = x) (kk : ZP l D M (pc + 1) L (.int x :: S) I F Post) : ZP l D M pc L (.int i :: .ref a :: S) I F Post := by
  obtain ⟨v9, I9, F9, h9, hp9⟩ := kk
  exact ⟨v9, I9, F9, R_bald j hd hs hi hj hn hx h9, hp9⟩
theorem P_zald {a n : Nat} {i : Int32} {x : Int32} (j : Nat) (hd : decode M.2.1 pc = .ok (.baload, 1)) (hs : SH[a]? = some (16, n)) (hi : i = nI j) (hj : j < n) (hn : n < 2 ^ 31) (hx : I a j = x) (kk : ZP l D M (pc + 1) L (.int x :: S) I F Post) : ZP l D M pc L (.int i :: .ref a :: S) I F Post := by
  obtain ⟨v9, I9, F9, h9, hp9⟩ := kk
  exact ⟨v9, I9, F9, R_zald j hd hs hi hj hn hx h9, hp9⟩
theorem P_cald {a n : Nat} {i : Int32} {x : Int32} (j : Nat) (hd : decode M.2.1 pc = .ok (.caload, 1)) (hs : SH[a]? = some (14, n)) (hi : i = nI j) (hj : j < n) (hn : n < 2 ^ 31) (hx : I a j = x) (kk : ZP l D M (pc + 1) L (.int x :: S) I F Post) : ZP l D M pc L (.int i :: .ref a :: S) I F Post := by
  obtain ⟨v9, I9, F9, h9, hp9⟩ := kk
  exact ⟨v9, I9, F9, R_cald j hd hs hi hj hn hx h9, hp9⟩
theorem P_iast {a n : Nat} {i : Int32} {x : Int32} (j : Nat) (hd : decode M.2.1 pc = .ok (.iastore, 1)) (hs : SH[a]? = some (15, n)) (hi : i = nI j) (hj : j < n) (hn : n < 2 ^ 31) (kk : ZP l D M (pc + 1) L S (zu I a j x) F Post) : ZP l D M pc L (.int x :: .int i :: .ref a :: S) I F Post := by
  obtain ⟨v9, I9, F9, h9, hp9⟩ := kk
  exact ⟨v9, I9, F9, R_iast j hd hs hi hj hn h9, hp9⟩
theorem P_bast {a n : Nat} {i : Int32} {x : Int32} (j : Nat) (hd : decode M.2.1 pc = .ok (.bastore, 1)) (hs : SH[a]? = some (13, n)) (hi : i = nI j) (hj : j < n) (hn : n < 2 ^ 31) (kk : ZP l D M (pc + 1) L S (zu I a j (vp_nar .byte x)) F Post) : ZP l D M pc L (.int x :: .int i :: .ref a :: S) I F Post := by
  obtain ⟨v9, I9, F9, h9, hp9⟩ := kk
  exact ⟨v9, I9, F9, R_bast j hd hs hi hj hn h9, hp9⟩
theorem P_zast {a n : Nat} {i : Int32} {x : Int32} (j : Nat) (hd : decode M.2.1 pc = .ok (.bastore, 1)) (hs : SH[a]? = some (16, n)) (hi : i = nI j) (hj : j < n) (hn : n < 2 ^ 31) (kk : ZP l D M (pc + 1) L S (zu I a j (vp_nar .boolean x)) F Post) : ZP l D M pc L (.int x :: .int i :: .ref a :: S) I F Post := by
  obtain ⟨v9, I9, F9, h9, hp9⟩ := kk
  exact ⟨v9, I9, F9, R_zast j hd hs hi hj hn h9, hp9⟩
theorem P_cast {a n : Nat} {i : Int32} {x : Int32} (j : Nat) (hd : decode M.2.1 pc = .ok (.castore, 1)) (hs : SH[a]? = some (14, n)) (hi : i = nI j) (hj : j < n) (hn : n < 2 ^ 31) (kk : ZP l D M (pc + 1) L S (zu I a j (vp_nar .char x)) F Post) : ZP l D M pc L (.int x :: .int i :: .ref a :: S) I F Post := by
  obtain ⟨v9, I9, F9, h9, hp9⟩ := kk
  exact ⟨v9, I9, F9, R_cast j hd hs hi hj hn h9, hp9⟩
theorem P_alen {a k n : Nat} {x : Int32} (hd : decode M.2.1 pc = .ok (.arraylength, 1)) (hs : SH[a]? = some (k, n)) (h1 : 13 ≤ k) (h2 : k < 17) (hx : nI n = x) (kk : ZP l D M (pc + 1) L (.int x :: S) I F Post) : ZP l D M pc L (.ref a :: S) I F Post := by
  obtain ⟨v9, I9, F9, h9, hp9⟩ := kk
  exact ⟨v9, I9, F9, R_alen hd hs h1 h2 hx h9, hp9⟩
theorem P_aald {a k n b : Nat} {i : Int32} (j : Nat) (hd : decode M.2.1 pc = .ok (.aaload, 1)) (hs : SH[a]? = some (k, n)) (hk : (k == 17 || k == 18) = true) (hi : i = nI j) (hj : j < n) (hn : n < 2 ^ 31) (hx : F a j = some b) (kk : ZP l D M (pc + 1) L (.ref b :: S) I F Post) : ZP l D M pc L (.int i :: .ref a :: S) I F Post := by
  obtain ⟨v9, I9, F9, h9, hp9⟩ := kk
  exact ⟨v9, I9, F9, R_aald j hd hs hk hi hj hn hx h9, hp9⟩
theorem P_copyi {a0 a1 n0 n1 idx : Nat} {sp dp n : Int32} (j : Nat) (hd : decode M.2.1 pc = .ok (.invokestatic idx, 3)) (hl0 : Cond.methodLink M.1.cls idx arraycopyName ∈ zT) (hnat : Cond.native arraycopyName ∈ zT) (hst : Cond.static arraycopyName ∈ zT) (hin : Cond.initialized "java/lang/System" ∈ zT) (hs0 : SH[a0]? = some (15, n0)) (hs1 : SH[a1]? = some (15, n1)) (hsp : sp = 0) (hdp : dp = 0) (hn : n = nI j) (hj0 : j ≤ n0) (hj1 : j ≤ n1) (hj : j < 2 ^ 31) (hf : 1 ≤ M.2.2.2.2.1) (hlo : (S.map fun v => v.category).sum + (nativeFrameWords "java/lang/System" "arraycopy" 5 + 11) ≤ M.2.2.2.2.2.1) (kk : ZP l D M (pc + 3) L S (va_up I a1 (va_cpy (I a0) (I a1) 0 0 j)) F Post) : ZP l D M pc L (.int n :: .int dp :: .ref a1 :: .int sp :: .ref a0 :: S) I F Post := by
  obtain ⟨v9, I9, F9, h9, hp9⟩ := kk
  exact ⟨v9, I9, F9, R_copyi j hd hl0 hnat hst hin hs0 hs1 hsp hdp hn hj0 hj1 hj hf hlo h9, hp9⟩
theorem P_iaddN {a b : Nat} (hd : decode M.2.1 pc = .ok (.iadd, 1)) (k : ZP l D M (pc + 1) L (.int (nI (a + b)) :: S) I F Post) : ZP l D M pc L (.int (nI b) :: .int (nI a) :: S) I F Post := P_iadd hd (by rw [nI_add]; exact k)
theorem P_imulN {a b : Nat} (hd : decode M.2.1 pc = .ok (.imul, 1)) (k : ZP l D M (pc + 1) L (.int (nI (a * b)) :: S) I F Post) : ZP l D M pc L (.int (nI b) :: .int (nI a) :: S) I F Post := P_imul hd (by rw [pk_mul]; exact k)
theorem P_isubN {a b : Nat} (hd : decode M.2.1 pc = .ok (.isub, 1)) (h : b ≤ a) (k : ZP l D M (pc + 1) L (.int (nI (a - b)) :: S) I F Post) : ZP l D M pc L (.int (nI b) :: .int (nI a) :: S) I F Post := P_isub hd (by rw [pk_sub h]; exact k)
theorem P_idivN {a b : Nat} (hd : decode M.2.1 pc = .ok (.idiv, 1)) (ha : a < 2 ^ 31) (h0 : 0 < b) (hb : b < 2 ^ 31) (k : ZP l D M (pc + 1) L (.int (nI (a / b)) :: S) I F Post) : ZP l D M pc L (.int (nI b) :: .int (nI a) :: S) I F Post := P_idiv hd (nI_ne0 h0 hb) (by rw [pk_div ha h0 hb]; exact k)
theorem P_iremN {a b : Nat} (hd : decode M.2.1 pc = .ok (.irem, 1)) (ha : a < 2 ^ 31) (h0 : 0 < b) (hb : b < 2 ^ 31) (k : ZP l D M (pc + 1) L (.int (nI (a % b)) :: S) I F Post) : ZP l D M pc L (.int (nI b) :: .int (nI a) :: S) I F Post := P_irem hd (nI_ne0 h0 hb) (by rw [pk_rem ha h0 hb]; exact k)
theorem P_iincN {i a c : Nat} {n : Int} (hd : decode M.2.1 pc = .ok (.iinc i n, 3)) (hL : L[i]? = some (some (.int (nI a)))) (hv : Int32.ofInt n = nI c) (hn : i < M.2.2.1) (hg : zlong L i = false) (k : ZP l D M (pc + 3) (L.set i (some (.int (nI (a + c))))) (S) I F Post) : ZP l D M pc L (S) I F Post := P_iinc hd hL (by rw [hv, nI_add]) hn hg k
theorem P_icmp_eqN {a b : Nat} {off : Int} {tgt : Nat} (hd : decode M.2.1 pc = .ok (.if_icmp .eq off, 3)) (ht : (pc : Int) + off = (tgt : Int)) (ha : a < 2 ^ 31) (hb : b < 2 ^ 31) (kt : a = b → ZP l D M tgt L (S) I F Post) (kf : ¬ a = b → ZP l D M (pc + 3) L (S) I F Post) : ZP l D M pc L (.int (nI b) :: .int (nI a) :: S) I F Post := by
  have e := nI_eq ha hb
  refine P_icmp_eq hd ht (fun h => kt ?_) (fun h => kf ?_)
  · first | exact e.mp h | exact fun z => h (e.mpr z)
  · first | exact e.mp h | exact fun z => h (e.mpr z) | exact Classical.byContradiction (fun z => h (fun y => z (e.mp y)))
theorem P_icmp_neN {a b : Nat} {off : Int} {tgt : Nat} (hd : decode M.2.1 pc = .ok (.if_icmp .ne off, 3)) (ht : (pc : Int) + off = (tgt : Int)) (ha : a < 2 ^ 31) (hb : b < 2 ^ 31) (kt : ¬ a = b → ZP l D M tgt L (S) I F Post) (kf : a = b → ZP l D M (pc + 3) L (S) I F Post) : ZP l D M pc L (.int (nI b) :: .int (nI a) :: S) I F Post := by
  have e := nI_eq ha hb
  refine P_icmp_ne hd ht (fun h => kt ?_) (fun h => kf ?_)
  · first | exact e.mp h | exact fun z => h (e.mpr z)
  · first | exact e.mp h | exact fun z => h (e.mpr z) | exact Classical.byContradiction (fun z => h (fun y => z (e.mp y)))
theorem P_icmp_ltN {a b : Nat} {off : Int} {tgt : Nat} (hd : decode M.2.1 pc = .ok (.if_icmp .lt off, 3)) (ht : (pc : Int) + off = (tgt : Int)) (ha : a < 2 ^ 31) (hb : b < 2 ^ 31) (kt : a < b → ZP l D M tgt L (S) I F Post) (kf : ¬ a < b → ZP l D M (pc + 3) L (S) I F Post) : ZP l D M pc L (.int (nI b) :: .int (nI a) :: S) I F Post := by
  have e := nI_ltI ha hb
  refine P_icmp_lt hd ht (fun h => kt ?_) (fun h => kf ?_)
  · first | exact e.mp h | exact fun z => h (e.mpr z)
  · first | exact e.mp h | exact fun z => h (e.mpr z) | exact Classical.byContradiction (fun z => h (fun y => z (e.mp y)))
theorem P_icmp_geN {a b : Nat} {off : Int} {tgt : Nat} (hd : decode M.2.1 pc = .ok (.if_icmp .ge off, 3)) (ht : (pc : Int) + off = (tgt : Int)) (ha : a < 2 ^ 31) (hb : b < 2 ^ 31) (kt : b ≤ a → ZP l D M tgt L (S) I F Post) (kf : ¬ b ≤ a → ZP l D M (pc + 3) L (S) I F Post) : ZP l D M pc L (.int (nI b) :: .int (nI a) :: S) I F Post := by
  have e := nI_leI hb ha
  refine P_icmp_ge hd ht (fun h => kt ?_) (fun h => kf ?_)
  · first | exact e.mp h | exact fun z => h (e.mpr z)
  · first | exact e.mp h | exact fun z => h (e.mpr z) | exact Classical.byContradiction (fun z => h (fun y => z (e.mp y)))
theorem P_icmp_gtN {a b : Nat} {off : Int} {tgt : Nat} (hd : decode M.2.1 pc = .ok (.if_icmp .gt off, 3)) (ht : (pc : Int) + off = (tgt : Int)) (ha : a < 2 ^ 31) (hb : b < 2 ^ 31) (kt : b < a → ZP l D M tgt L (S) I F Post) (kf : ¬ b < a → ZP l D M (pc + 3) L (S) I F Post) : ZP l D M pc L (.int (nI b) :: .int (nI a) :: S) I F Post := by
  have e := nI_ltI hb ha
  refine P_icmp_gt hd ht (fun h => kt ?_) (fun h => kf ?_)
  · first | exact e.mp h | exact fun z => h (e.mpr z)
  · first | exact e.mp h | exact fun z => h (e.mpr z) | exact Classical.byContradiction (fun z => h (fun y => z (e.mp y)))
theorem P_icmp_leN {a b : Nat} {off : Int} {tgt : Nat} (hd : decode M.2.1 pc = .ok (.if_icmp .le off, 3)) (ht : (pc : Int) + off = (tgt : Int)) (ha : a < 2 ^ 31) (hb : b < 2 ^ 31) (kt : a ≤ b → ZP l D M tgt L (S) I F Post) (kf : ¬ a ≤ b → ZP l D M (pc + 3) L (S) I F Post) : ZP l D M pc L (.int (nI b) :: .int (nI a) :: S) I F Post := by
  have e := nI_leI ha hb
  refine P_icmp_le hd ht (fun h => kt ?_) (fun h => kf ?_)
  · first | exact e.mp h | exact fun z => h (e.mpr z)
  · first | exact e.mp h | exact fun z => h (e.mpr z) | exact Classical.byContradiction (fun z => h (fun y => z (e.mp y)))
theorem P_if_eqB {b : Bool} {off : Int} {tgt : Nat} (hd : decode M.2.1 pc = .ok (.ifCond .eq off, 3)) (ht : (pc : Int) + off = (tgt : Int)) (kt : b = false → ZP l D M tgt L (S) I F Post) (kf : b = true → ZP l D M (pc + 3) L (S) I F Post) : ZP l D M pc L (.int (zb b) :: S) I F Post := by
  refine P_if_eq hd ht (fun h => kt ?_) (fun h => kf ?_)
  · cases b
    · rfl
    · exact absurd h (by decide)
  · cases b
    · exact absurd rfl h
    · rfl
theorem P_if_neB {b : Bool} {off : Int} {tgt : Nat} (hd : decode M.2.1 pc = .ok (.ifCond .ne off, 3)) (ht : (pc : Int) + off = (tgt : Int)) (kt : b = true → ZP l D M tgt L (S) I F Post) (kf : b = false → ZP l D M (pc + 3) L (S) I F Post) : ZP l D M pc L (.int (zb b) :: S) I F Post := by
  refine P_if_ne hd ht (fun h => kt ?_) (fun h => kf ?_)
  · cases b
    · exact absurd rfl h
    · rfl
  · cases b
    · rfl
    · first | exact absurd h (by decide) | exact absurd (Classical.byContradiction h) (by decide)
theorem P_putr {idx a : Nat} (c k : Nat) {n b : Nat} (hd : decode M.2.1 pc = .ok (.putfield idx, 3)) (hf : zFl M.1.cls idx c k) (hs : SH[a]? = some (c, n)) (hc : (decide (c < 13) && decide (k < n) && decide (n = zNf c) && (zTy c k).isReference) = true) (hfin : (zTb c k).2.2.2 = false) (hb : b < SH.length) (hn : ∀ q : Nat, narrow (zTy c k) (.ref q) = .ref q) (hfit : ∀ q : Nat, fits (zTy c k) (.ref q) = true) (kk : ZP l D M (pc + 3) L S I (zuR F a k (some b)) Post) : ZP l D M pc L (.ref b :: .ref a :: S) I F Post := by
  obtain ⟨v9, I9, F9, h9, hp9⟩ := kk
  exact ⟨v9, I9, F9, R_putr c k hd hf hs hc (Or.inl hfin) hb hn hfit h9, hp9⟩
theorem P_callV {N : ZM} {idx n b k kn : Nat} {As : List Value} {J : AI} {G : AR} {u : Option Int32} (hN : ZR l D N 0 (zent N.2.2.1 (.ref b :: As)) [] I F SH u J G SH) (hd : decode M.2.1 pc = .ok (.invokevirtual idx, 3)) (ho : zOk N n) (hm : zMl M.1.cls idx N.1) (hi : Cond.instanceMethod N.1 ∈ zT ∧ Cond.selects N.1.cls N.1 N.1 ∈ zT) (hrm : zRm M N) (hret : zRet N.2.2.2.1 u) (hcat : (As.all fun a => a.category == 1) = true) (hlen : As.length = n ∧ n + 1 ≤ N.2.2.1) (hb : SH[b]? = some (k, kn)) (hk : k < 13 ∧ zRn k = N.1.cls) (hst : (S.map fun v => v.category).sum ≤ 8) (kk : ZP l D M (pc + 3) L (u.toList.map Value.int ++ S) J G Post) : ZP l D M pc L (As.reverse ++ .ref b :: S) I F Post := by
  obtain ⟨v, I', F', h, hp⟩ := kk
  exact ⟨v, I', F', R_callV hN hd ho hm hi hrm hret hcat hlen hb hk hst zNew.rf h, hp⟩
theorem P_callS {N : ZM} {idx n : Nat} {As : List Value} {J : AI} {G : AR} {u : Option Int32} (hN : ZR l D N 0 (zent N.2.2.1 As) [] I F SH u J G SH) (hd : decode M.2.1 pc = .ok (.invokestatic idx, 3)) (ho : zOk N n) (hm : zMl M.1.cls idx N.1) (hi : Cond.static N.1 ∈ zT) (hrm : zRm M N) (hret : zRet N.2.2.2.1 u) (hcat : (As.all fun a => a.category == 1) = true) (hlen : As.length = n ∧ n ≤ N.2.2.1) (hst : (S.map fun v => v.category).sum ≤ 8) (kk : ZP l D M (pc + 3) L (u.toList.map Value.int ++ S) J G Post) : ZP l D M pc L (As.reverse ++ S) I F Post := by
  obtain ⟨v, I', F', h, hp⟩ := kk
  exact ⟨v, I', F', R_callS hN hd ho hm hi hrm hret hcat hlen hst zNew.rf h, hp⟩
/-- by a measure that falls -/
theorem z_meas {σ : Type} (μ : σ → Nat) (P : σ → Prop) (h : ∀ s, (∀ s', μ s' < μ s → P s') → P s) (s : σ) : P s := by
  have : ∀ n s, μ s < n → P s := by
    intro n
    induction n with
    | zero => intro s hs; omega
    | succ n ih => intro s hs; exact h s (fun s' h' => ih s' (by omega))
  exact this (μ s + 1) s (by omega)
end PRows
end
section
theorem zz_last : True := trivial
end
