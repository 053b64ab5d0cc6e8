theorem RefV.o9 {s : Nat → Nat → Nat} {I : AI} (h : RefV s I) {k : Nat} {x : Int32} : RefV s (zu I 109 k x) := h.o rfl
theorem lk_d {ps : List (Int × Int)} {d k : Int} (h : ∀ q ∈ ps, q.1 ≠ k) : Op.lookupswitch.offset ps d k = d := by
  induction ps with
  | nil => rfl
  | cons a r ih =>
    obtain ⟨x, y⟩ := a
    rw [Op.lookupswitch.offset_cons]
    have h1 : x ≠ k := h (x, y) List.mem_cons_self
    first | rw [if_neg h1] | rw [if_neg (fun z => h1 z.symm)]
    exact ih (fun q hq => h q (List.mem_cons_of_mem _ hq))
/-- the reader stands at p; whether the last item was so is open -/
def RefQ (s : Nat → Nat → Nat) (I : AI) (p : Nat) (f : Bool) : Prop := RefV s I ∧ I 109 1 = nI (s 109 1) ∧ I 109 13 = nI (s 109 13) ∧ I 109 14 = nI p ∧ I 109 16 = zb f
theorem RefR.Q {s : Nat → Nat → Nat} {I : AI} {p : Nat} {b f : Bool} (h : RefR s I p b f) : RefQ s I p f := ⟨h.1, h.2.1, h.2.2.1, h.2.2.2.1, h.2.2.2.2.2⟩
theorem RefQ.X {s : Nat → Nat → Nat} {I : AI} {p : Nat} {f : Bool} (h : RefQ s I p f) (ht : s 109 1 ≤ 200) (hx : ∀ k, k < s 109 1 → s 110 k ≤ 126) : RefX (s 110) (s 109 1) I := ⟨h.2.1, ht, fun k => h.1 110 k rfl, hx⟩
theorem RefQ.num {s : Nat → Nat → Nat} {I J : AI} {p : Nat} {f b2 : Bool} {p2 : Nat} (h : RefQ s I p f) (h2 : zFN I J) (h3 : J 109 14 = nI p2) (h4 : J 109 15 = zb b2) : RefR s J p2 b2 f := ⟨h2.V h.1, by rw [h2.2 1 (by decide) (by decide)]; exact h.2.1, by rw [h2.2 13 (by decide) (by decide)]; exact h.2.2.1, h3, h4, by rw [h2.2 16 (by decide) (by decide)]; exact h.2.2.2.2⟩
set_option maxRecDepth 20000 in
theorem c_readItem {l : Launch} {D : va_G} {tw : Nat} {I : AI} {s : Nat → Nat → Nat} {p : Nat} {f : Bool} (hR : RefQ s I p f) (ht : s 109 1 ≤ 200) (hx : ∀ k, k < s 109 1 → s 110 k ≤ 126) (hp : p < s 109 1) (hdr : DrOk s) : ZP l D zm_X12_readItem 0 (zent 11 [.ref 109]) [] I (zF tw) (fun v J G => v = none ∧ G = zF tw ∧ ∃ s2 p2 b2 f2, RefR s2 J p2 b2 f2 ∧ zFW I J ∧ Scr zDr s s2 ∧ (match zItem s f p with | some q => b2 = true ∧ s2 = q.1 ∧ p2 = q.2.1 ∧ f2 = q.2.2 | none => b2 = false)) := by
  have hn1 := hdr.1
  have hn8 := hdr.2.1
  have hd13 := hdr.2.2.2.1
  have hw4 := hdr.2.2.2.2.1
  have hc126 := hx p hp
  have hv1 := zv1_le s (p + 1)
  have hv2 := zv1_le s (zn1 s (p + 1))
  have hv3 := zv1_le s (zn1 s (zn1 s (p + 1)))
  have fin : ∀ (s9 : Nat → Nat → Nat) (p9 : Nat) (b9 : Bool) (J : AI) (v2 v3 v4 v5 v6 v7 v8 v9 v10 : Option Value), RefR s9 J p9 b9 f → zFW I J → Scr zDr s s9 → zItem s f p = (match b9 with | true => some (s9, p9, f && decide (s 110 p = 99)) | false => none) → ZP l D zm_X12_readItem 279 [some (.ref 109), some (.int (nI (s 110 p))), v2, v3, v4, v5, v6, v7, v8, v9, v10] [] J (zF tw) (fun v J G => v = none ∧ G = zF tw ∧ ∃ s2 p2 b2 f2, RefR s2 J p2 b2 f2 ∧ zFW I J ∧ Scr zDr s s2 ∧ (match zItem s f p with | some q => b2 = true ∧ s2 = q.1 ∧ p2 = q.2.1 ∧ f2 = q.2.2 | none => b2 = false)) := by
    intro s9 p9 b9 J v2 v3 v4 v5 v6 v7 v8 v9 v10 hR9 hW9 hS9 hI9
    refine P_aload_n (pc := 279) dX12_readItem_279 rfl ?_
    refine P_aload_n (pc := 280) dX12_readItem_280 rfl ?_
    refine P_geti (pc := 281) 12 16 (x := zb (f)) dX12_readItem_281 fl_X12_120 sh_109 fi_12_16 (hR9.2.2.2.2.2) ?_
    refine P_sel1 (pc := 284) (zb (f && decide ((s 110 p) = 99))) 298 (fun k298_284 => ?_) ?_
    · refine P_if_eqB (pc := 284) (tgt := 297) dX12_readItem_284 (by decide) (fun h284 => ?_) (fun h284 => ?_)
      · refine P_iconst (pc := 297) (x := nI 0) dX12_readItem_297 (by decide) ?_
        exact k298_284 _ (by rw [h284, Bool.false_and]; rfl)
      · refine P_iload_n (pc := 287) dX12_readItem_287 rfl ?_
        refine P_bipush (pc := 288) (x := nI 99) dX12_readItem_288 (by decide) ?_
        refine P_icmp_neN (pc := 290) (tgt := 297) dX12_readItem_290 (by decide) (by omega) (by omega) (fun h290 => ?_) (fun h290 => ?_)
        · refine P_iconst (pc := 297) (x := nI 0) dX12_readItem_297 (by decide) ?_
          exact k298_284 _ (by rw [decide_eq_false h290, Bool.and_false]; rfl)
        · refine P_iconst (pc := 293) (x := nI 1) dX12_readItem_293 (by decide) ?_
          refine P_goto (pc := 294) (tgt := 298) dX12_readItem_294 (by decide) ?_
          exact k298_284 _ (by rw [h284, decide_eq_true h290]; rfl)
    · refine P_puti (pc := 298) 12 16 dX12_readItem_298 fl_X12_120 sh_109 fp_12_16 (by cases (f && decide ((s 110 p) = 99)) <;> rfl) (by cases (f && decide ((s 110 p) = 99)) <;> rfl) ?_
      refine P_ret (pc := 301) dX12_readItem_301 ?_
      refine ⟨rfl, rfl, s9, p9, b9, (f && decide (s 110 p = 99)), ?_, hW9.u (Or.inr ⟨rfl, by omega, by omega⟩), hS9, ?_⟩
      · exact ⟨hR9.1.o9, hR9.2.1, hR9.2.2.1, hR9.2.2.2.1, hR9.2.2.2.2.1, zu_s _ _ _ _⟩
      · rw [hI9]
        cases b9 with
        | false => rfl
        | true => exact ⟨rfl, rfl, rfl, rfl⟩
  show ZP _ _ _ _ [some _, none, none, none, none, none, none, none, none, none, none] _ _ _ _
  refine P_aload_n (pc := 0) dX12_readItem_0 rfl ?_
  obtain ⟨_, _, _, kh, rfl, rfl, rfl⟩ := c_here (l := l) (D := D) (tw := tw) (hR.X ht hx) hR.2.2.2.1 (by omega)
  rw [show zCh (s 110) (s 109 1) p = some (s 110 p) from if_pos hp] at kh
  refine P_callV (pc := 1) (S := []) (As := []) kh dX12_readItem_1 ok_X12_here ml_X12_104 iv_X12_here ⟨by decide, by decide⟩ (zret_i _) rfl ⟨rfl, by decide⟩ sh_109 ⟨by decide, rfl⟩ (Nat.le_of_ble_eq_true rfl) ?_
  refine P_istore_n (pc := 4) dX12_readItem_4 (by decide) rfl ?_
  refine P_aload_n (pc := 5) dX12_readItem_5 rfl ?_
  refine P_dup (pc := 6) dX12_readItem_6 rfl ?_
  refine P_geti (pc := 7) 12 14 (x := nI (p)) dX12_readItem_7 fl_X12_101 sh_109 fi_12_14 (hR.2.2.2.1) ?_
  refine P_iconst (pc := 10) (x := nI 1) dX12_readItem_10 (by decide) ?_
  refine P_iaddN (pc := 11) dX12_readItem_11 ?_
  refine P_puti (pc := 12) 12 14 dX12_readItem_12 fl_X12_101 sh_109 fp_12_14 rfl rfl ?_
  refine P_aload_n (pc := 15) dX12_readItem_15 rfl ?_
  refine P_iconst (pc := 16) (x := nI 1) dX12_readItem_16 (by decide) ?_
  refine P_puti (pc := 17) 12 15 dX12_readItem_17 fl_X12_108 sh_109 fp_12_15 (by decide) (by decide) ?_
  refine P_iload_n (pc := 20) dX12_readItem_20 rfl ?_
  have hR00 : RefR s (zu (zu I 109 14 (nI (p + 1))) 109 15 (nI 1)) (p + 1) true f := hR.num ((zFN.rf.f (Or.inl rfl)).f (Or.inr rfl)) rfl rfl
  have hW00 : zFW I (zu (zu I 109 14 (nI (p + 1))) 109 15 (nI 1)) := ((zFN.rf.f (Or.inl rfl)).f (Or.inr rfl)).W
  by_cases h99 : s 110 p = 99
  · refine P_lookup (pc := 21) (off := 51) (tgt := 72) dX12_readItem_21 (by decide) (by rw [h99]; decide) (by decide) ?_
    refine P_aload_n (pc := 72) dX12_readItem_72 rfl ?_
    refine P_aload_n (pc := 73) dX12_readItem_73 rfl ?_
    refine P_geti (pc := 74) 12 16 (x := zb (f)) dX12_readItem_74 fl_X12_120 sh_109 fi_12_16 (hR00.2.2.2.2.2) ?_
    refine P_puti (pc := 77) 12 15 dX12_readItem_77 fl_X12_108 sh_109 fp_12_15 (by cases (f) <;> rfl) (by cases (f) <;> rfl) ?_
    have hR0 : RefR s (zu (zu (zu I 109 14 (nI (p + 1))) 109 15 (nI 1)) 109 15 (zb f)) (p + 1) f f := hR00.num (zFN.rf.f (Or.inr rfl)) hR00.2.2.2.1 (zu_s _ _ _ _)
    have hW0 := hW00.u (a := 109) (k := 15) (x := zb f) (Or.inr ⟨rfl, by omega, by omega⟩)
    refine P_aload_n (pc := 80) dX12_readItem_80 rfl ?_
    refine P_getr (pc := 81) 12 2 dX12_readItem_81 fl_X12_13 sh_109 fr_12_2 F_109_2 ?_
    refine P_iconst (pc := 84) (x := nI 1) dX12_readItem_84 (by decide) ?_
    refine P_aload_n (pc := 85) dX12_readItem_85 rfl ?_
    refine P_iconst (pc := 86) (x := nI 1) dX12_readItem_86 (by decide) ?_
    refine P_bipush (pc := 87) (x := nI 8) dX12_readItem_87 (by decide) ?_
    refine P_bipush (pc := 89) (x := nI 59) dX12_readItem_89 (by decide) ?_
    obtain ⟨_, J1, _, k1, rfl, rfl, hN1, h14_1, h15_1⟩ := c_number (l := l) (D := D) (tw := tw) (lo := 1) (hi := 8) (be := 59) (hR0.X ht hx) hR0.2.2.2.1 hR0.2.2.2.2.1 (by omega) (by omega) (by omega) (by omega)
    have hR1 : RefR s J1 (zn1 s (p + 1)) _ f := hR0.num hN1 h14_1 h15_1
    have hW1 := (hW0).trans hN1.W
    refine P_callV (pc := 91) (S := [_, _]) (As := [_, _, _]) k1 dX12_readItem_91 ok_X12_number ml_X12_112 iv_X12_number ⟨by decide, by decide⟩ (zret_i _) rfl ⟨rfl, by decide⟩ sh_109 ⟨by decide, rfl⟩ (Nat.le_of_ble_eq_true rfl) ?_
    refine P_iast (pc := 94) (1) dX12_readItem_94 sh_111 rfl (by omega) (by decide) ?_
    refine P_goto (pc := 95) (tgt := 279) dX12_readItem_95 (by decide) ?_
    exact fin (dC s (zv1 s (p + 1))) (zn1 s (p + 1)) (f && zk1 s (p + 1) 1 8 59) _ _ _ _ _ _ _ _ _ _ ⟨hR1.1.u 111 1 _, hR1.2.1, hR1.2.2.1, hR1.2.2.2.1, hR1.2.2.2.2.1, hR1.2.2.2.2.2⟩ (hW1.u (by omega)) (Scr.rf.u rfl) (by
      unfold zItem okC
      rw [if_pos h99]
      cases hb : (f && zk1 s (p + 1) 1 8 59) with
      | false => rfl
      | true =>
        have hf : f = true := by cases f <;> simp_all
        rw [if_pos rfl, h99, hf]; rfl)
  by_cases h115 : s 110 p = 115
  · refine P_lookup (pc := 21) (off := 77) (tgt := 98) dX12_readItem_21 (by decide) (by rw [h115]; decide) (by decide) ?_
    refine P_aload_n (pc := 98) dX12_readItem_98 rfl ?_
    obtain ⟨_, J1, _, k1, rfl, rfl, hW1, hR1⟩ := c_readStreet (l := l) (D := D) (tw := tw) hR00 ht hx (by omega) hdr
    refine P_callV (pc := 99) (S := []) (As := []) k1 dX12_readItem_99 ok_X12_readStreet ml_X12_123 iv_X12_readStreet ⟨by decide, by decide⟩ zret_v rfl ⟨rfl, by decide⟩ sh_109 ⟨by decide, rfl⟩ (Nat.le_of_ble_eq_true rfl) ?_
    refine P_goto (pc := 102) (tgt := 279) dX12_readItem_102 (by decide) ?_
    refine fin _ _ _ J1 _ _ _ _ _ _ _ _ _ hR1 (hW00.trans hW1) ?_ ?_
    · split
      · exact (((Scr.rf.u (by simp [zDr])).u (by simp [zDr])).u (by simp [zDr])).u rfl
      · exact Scr.rf
    · unfold zItem okS
      rw [if_neg h99, if_pos h115, h115]
      cases hb : (((((decide (s 112 1 < 12) && zk1 s (p + 1) 0 (s 111 1 - 1) 44) && zk1 s (zn1 s (p + 1)) 0 (s 111 1 - 1) 44) && zk1 s (zn1 s (zn1 s (p + 1))) 1 20 59) && decide (¬ (zv1 s (p + 1)) = (zv1 s (zn1 s (p + 1))))) && zDup s (zv1 s (p + 1)) (zv1 s (zn1 s (p + 1))) (s 112 1)) with
      | false => rfl
      | true => simp
  by_cases h103 : s 110 p = 103
  · refine P_lookup (pc := 21) (off := 84) (tgt := 105) dX12_readItem_21 (by decide) (by rw [h103]; decide) (by decide) ?_
    refine P_aload_n (pc := 105) dX12_readItem_105 rfl ?_
    refine P_aload_n (pc := 106) dX12_readItem_106 rfl ?_
    refine P_geti (pc := 107) 12 13 (x := nI (s 109 13)) dX12_readItem_107 fl_X12_90 sh_109 fi_12_13 (hR00.2.2.1) ?_
    refine P_bipush (pc := 110) (x := nI 8) dX12_readItem_110 (by decide) ?_
    refine P_sel2 (pc := 112) (zb (decide (s 109 13 < 8))) 120 (fun k120_112 => ?_) ?_
    · refine P_icmp_geN (pc := 112) (tgt := 119) dX12_readItem_112 (by decide) (by omega) (by omega) (fun h112 => ?_) (fun h112 => ?_)
      · refine P_iconst (pc := 119) (x := nI 0) dX12_readItem_119 (by decide) ?_
        exact k120_112 _ (by rw [decide_eq_false (by omega)]; rfl)
      · refine P_iconst (pc := 115) (x := nI 1) dX12_readItem_115 (by decide) ?_
        refine P_goto (pc := 116) (tgt := 120) dX12_readItem_116 (by decide) ?_
        exact k120_112 _ (by rw [decide_eq_true (by omega)]; rfl)
    · refine P_puti (pc := 120) 12 15 dX12_readItem_120 fl_X12_108 sh_109 fp_12_15 (by cases (decide (s 109 13 < 8)) <;> rfl) (by cases (decide (s 109 13 < 8)) <;> rfl) ?_
      have hR0 : RefR s (zu (zu (zu I 109 14 (nI (p + 1))) 109 15 (nI 1)) 109 15 (zb (decide (s 109 13 < 8)))) (p + 1) (decide (s 109 13 < 8)) f := hR00.num (zFN.rf.f (Or.inr rfl)) hR00.2.2.2.1 (zu_s _ _ _ _)
      have hW0 := hW00.u (a := 109) (k := 15) (x := zb (decide (s 109 13 < 8))) (Or.inr ⟨rfl, by omega, by omega⟩)
      refine P_aload_n (pc := 123) dX12_readItem_123 rfl ?_
      refine P_bipush (pc := 124) (x := nI 44) dX12_readItem_124 (by decide) ?_
      obtain ⟨_, J1, _, k1, rfl, rfl, hN1, hR1⟩ := c_corner (l := l) (D := D) (tw := tw) (be := 44) hR0 ht hx (by omega) hn1 hn8 (by omega)
      have hW1 := (hW0).trans hN1.W
      refine P_callV (pc := 126) (S := []) (As := [_]) k1 dX12_readItem_126 ok_X12_corner ml_X12_116 iv_X12_corner ⟨by decide, by decide⟩ (zret_i _) rfl ⟨rfl, by decide⟩ sh_109 ⟨by decide, rfl⟩ (Nat.le_of_ble_eq_true rfl) ?_
      refine P_istore_n (pc := 129) dX12_readItem_129 (by decide) rfl ?_
      refine P_aload_n (pc := 130) dX12_readItem_130 rfl ?_
      refine P_bipush (pc := 131) (x := nI 44) dX12_readItem_131 (by decide) ?_
      obtain ⟨_, J2, _, k2, rfl, rfl, hN2, hR2⟩ := c_corner (l := l) (D := D) (tw := tw) (be := 44) hR1 ht hx (by omega) hn1 hn8 (by omega)
      have hW2 := (hW1).trans hN2.W
      refine P_callV (pc := 133) (S := []) (As := [_]) k2 dX12_readItem_133 ok_X12_corner ml_X12_116 iv_X12_corner ⟨by decide, by decide⟩ (zret_i _) rfl ⟨rfl, by decide⟩ sh_109 ⟨by decide, rfl⟩ (Nat.le_of_ble_eq_true rfl) ?_
      refine P_istore_n (pc := 136) dX12_readItem_136 (by decide) rfl ?_
      refine P_aload_n (pc := 137) dX12_readItem_137 rfl ?_
      refine P_bipush (pc := 138) (x := nI 59) dX12_readItem_138 (by decide) ?_
      obtain ⟨_, J3, _, k3, rfl, rfl, hN3, hR3⟩ := c_corner (l := l) (D := D) (tw := tw) (be := 59) hR2 ht hx (by omega) hn1 hn8 (by omega)
      have hW3 := (hW2).trans hN3.W
      refine P_callV (pc := 140) (S := []) (As := [_]) k3 dX12_readItem_140 ok_X12_corner ml_X12_116 iv_X12_corner ⟨by decide, by decide⟩ (zret_i _) rfl ⟨rfl, by decide⟩ sh_109 ⟨by decide, rfl⟩ (Nat.le_of_ble_eq_true rfl) ?_
      refine P_istore (pc := 143) dX12_readItem_143 (by decide) rfl ?_
      refine P_aload_n (pc := 145) dX12_readItem_145 rfl ?_
      refine P_geti (pc := 146) 12 15 (x := zb ((((decide (s 109 13 < 8) && zk1 s (p + 1) 0 (s 111 1 - 1) 44) && zk1 s (zn1 s (p + 1)) 0 (s 111 1 - 1) 44) && zk1 s (zn1 s (zn1 s (p + 1))) 0 (s 111 1 - 1) 59))) dX12_readItem_146 fl_X12_108 sh_109 fi_12_15 (hR3.2.2.2.2.1) ?_
      refine P_if_eqB (pc := 149) (tgt := 279) dX12_readItem_149 (by decide) (fun h149 => ?_) (fun h149 => ?_)
      · exact fin s _ false J3 _ _ _ _ _ _ _ _ _ (by rw [h149] at hR3; exact hR3) hW3 Scr.rf (by unfold zItem okG; rw [if_neg h99, if_neg h115, if_pos h103, h149]; rfl)
      · refine P_aload_n (pc := 152) dX12_readItem_152 rfl ?_
        refine P_iload_n (pc := 153) dX12_readItem_153 rfl ?_
        refine P_iload_n (pc := 154) dX12_readItem_154 rfl ?_
        refine P_iload (pc := 155) dX12_readItem_155 rfl ?_
        have hlt : s 109 13 < 8 := by have h9 := h149; simp only [Bool.and_eq_true, decide_eq_true_eq] at h9; exact h9.1.1.1
        obtain ⟨_, _, _, kf, rfl, rfl, rfl⟩ := c_firstSign (l := l) (D := D) (tw := tw) (m := s 109 13) (x := zv1 s (p + 1)) (y := zv1 s (zn1 s (p + 1))) (z := zv1 s (zn1 s (zn1 s (p + 1)))) hR3.2.2.1 hlt
        refine P_callV (pc := 157) (S := []) (As := [_, _, _]) kf dX12_readItem_157 ok_X12_firstSign ml_X12_78 iv_X12_firstSign ⟨by decide, by decide⟩ zret_v rfl ⟨rfl, by decide⟩ sh_109 ⟨by decide, rfl⟩ (Nat.le_of_ble_eq_true rfl) ?_
        refine P_goto (pc := 160) (tgt := 279) dX12_readItem_160 (by decide) ?_
        exact fin (dG s (zv1 s (p + 1)) (zv1 s (zn1 s (p + 1))) (zv1 s (zn1 s (zn1 s (p + 1))))) _ true _ _ _ _ _ _ _ _ _ _ ⟨(((hR3.1.u 121 _ _).u 121 _ _).u 121 _ _).u 109 13 _, hR3.2.1, zu_s _ _ _ _, hR3.2.2.2.1, by rw [h149] at hR3; exact hR3.2.2.2.2.1, hR3.2.2.2.2.2⟩ ((((hW3.u (by omega)).u (by omega)).u (by omega)).u (by omega)) ((((Scr.rf.u rfl).u rfl).u rfl).u rfl) (by unfold zItem okG; rw [if_neg h99, if_neg h115, if_pos h103, h149, if_pos rfl, h103]; simp)
  by_cases h119 : s 110 p = 119
  · refine P_lookup (pc := 21) (off := 142) (tgt := 163) dX12_readItem_21 (by decide) (by rw [h119]; decide) (by decide) ?_
    refine P_aload_n (pc := 163) dX12_readItem_163 rfl ?_
    refine P_aload_n (pc := 164) dX12_readItem_164 rfl ?_
    refine P_getr (pc := 165) 12 7 dX12_readItem_165 fl_X12_29 sh_109 fr_12_7 F_109_7 ?_
    refine P_iconst (pc := 168) (x := nI 1) dX12_readItem_168 (by decide) ?_
    refine P_iald (pc := 169) (1) (x := nI (s 116 1)) dX12_readItem_169 sh_116 rfl (by omega) (by decide) (hR00.1 116 1 rfl) ?_
    refine P_iconst (pc := 170) (x := nI 4) dX12_readItem_170 (by decide) ?_
    refine P_sel2 (pc := 171) (zb (decide (s 116 1 < 4))) 179 (fun k179_171 => ?_) ?_
    · refine P_icmp_geN (pc := 171) (tgt := 178) dX12_readItem_171 (by decide) (by omega) (by omega) (fun h171 => ?_) (fun h171 => ?_)
      · refine P_iconst (pc := 178) (x := nI 0) dX12_readItem_178 (by decide) ?_
        exact k179_171 _ (by rw [decide_eq_false (by omega)]; rfl)
      · refine P_iconst (pc := 174) (x := nI 1) dX12_readItem_174 (by decide) ?_
        refine P_goto (pc := 175) (tgt := 179) dX12_readItem_175 (by decide) ?_
        exact k179_171 _ (by rw [decide_eq_true (by omega)]; rfl)
    · refine P_puti (pc := 179) 12 15 dX12_readItem_179 fl_X12_108 sh_109 fp_12_15 (by cases (decide (s 116 1 < 4)) <;> rfl) (by cases (decide (s 116 1 < 4)) <;> rfl) ?_
      have hR0 : RefR s (zu (zu (zu I 109 14 (nI (p + 1))) 109 15 (nI 1)) 109 15 (zb (decide (s 116 1 < 4)))) (p + 1) (decide (s 116 1 < 4)) f := hR00.num (zFN.rf.f (Or.inr rfl)) hR00.2.2.2.1 (zu_s _ _ _ _)
      have hW0 := hW00.u (a := 109) (k := 15) (x := zb (decide (s 116 1 < 4))) (Or.inr ⟨rfl, by omega, by omega⟩)
      refine P_aload_n (pc := 182) dX12_readItem_182 rfl ?_
      refine P_iconst (pc := 183) (x := nI 0) dX12_readItem_183 (by decide) ?_
      refine P_iconst (pc := 184) (x := nI 3) dX12_readItem_184 (by decide) ?_
      refine P_bipush (pc := 185) (x := nI 44) dX12_readItem_185 (by decide) ?_
      obtain ⟨_, J1, _, k1, rfl, rfl, hN1, h14_1, h15_1⟩ := c_number (l := l) (D := D) (tw := tw) (lo := 0) (hi := 3) (be := 44) (hR0.X ht hx) hR0.2.2.2.1 hR0.2.2.2.2.1 (by omega) (by omega) (by omega) (by omega)
      have hR1 : RefR s J1 (zn1 s (p + 1)) _ f := hR0.num hN1 h14_1 h15_1
      have hW1 := (hW0).trans hN1.W
      refine P_callV (pc := 187) (S := []) (As := [_, _, _]) k1 dX12_readItem_187 ok_X12_number ml_X12_112 iv_X12_number ⟨by decide, by decide⟩ (zret_i _) rfl ⟨rfl, by decide⟩ sh_109 ⟨by decide, rfl⟩ (Nat.le_of_ble_eq_true rfl) ?_
      refine P_istore (pc := 190) dX12_readItem_190 (by decide) rfl ?_
      refine P_aload_n (pc := 192) dX12_readItem_192 rfl ?_
      refine P_bipush (pc := 193) (x := nI 44) dX12_readItem_193 (by decide) ?_
      obtain ⟨_, J2, _, k2, rfl, rfl, hN2, hR2⟩ := c_corner (l := l) (D := D) (tw := tw) (be := 44) hR1 ht hx (by omega) hn1 hn8 (by omega)
      have hW2 := (hW1).trans hN2.W
      refine P_callV (pc := 195) (S := []) (As := [_]) k2 dX12_readItem_195 ok_X12_corner ml_X12_116 iv_X12_corner ⟨by decide, by decide⟩ (zret_i _) rfl ⟨rfl, by decide⟩ sh_109 ⟨by decide, rfl⟩ (Nat.le_of_ble_eq_true rfl) ?_
      refine P_istore (pc := 198) dX12_readItem_198 (by decide) rfl ?_
      refine P_aload_n (pc := 200) dX12_readItem_200 rfl ?_
      refine P_bipush (pc := 201) (x := nI 59) dX12_readItem_201 (by decide) ?_
      obtain ⟨_, J3, _, k3, rfl, rfl, hN3, hR3⟩ := c_corner (l := l) (D := D) (tw := tw) (be := 59) hR2 ht hx (by omega) hn1 hn8 (by omega)
      have hW3 := (hW2).trans hN3.W
      refine P_callV (pc := 203) (S := []) (As := [_]) k3 dX12_readItem_203 ok_X12_corner ml_X12_116 iv_X12_corner ⟨by decide, by decide⟩ (zret_i _) rfl ⟨rfl, by decide⟩ sh_109 ⟨by decide, rfl⟩ (Nat.le_of_ble_eq_true rfl) ?_
      refine P_istore (pc := 206) dX12_readItem_206 (by decide) rfl ?_
      refine P_aload_n (pc := 208) dX12_readItem_208 rfl ?_
      refine P_geti (pc := 209) 12 15 (x := zb ((((decide (s 116 1 < 4) && zk1 s (p + 1) 0 3 44) && zk1 s (zn1 s (p + 1)) 0 (s 111 1 - 1) 44) && zk1 s (zn1 s (zn1 s (p + 1))) 0 (s 111 1 - 1) 59))) dX12_readItem_209 fl_X12_108 sh_109 fi_12_15 (hR3.2.2.2.2.1) ?_
      refine P_if_eqB (pc := 212) (tgt := 279) dX12_readItem_212 (by decide) (fun h212 => ?_) (fun h212 => ?_)
      · exact fin s _ false J3 _ _ _ _ _ _ _ _ _ (by rw [h212] at hR3; exact hR3) hW3 Scr.rf (by unfold zItem okW; rw [if_neg h99, if_neg h115, if_neg h103, if_pos h119, h212]; rfl)
      · refine P_aload_n (pc := 215) dX12_readItem_215 rfl ?_
        refine P_iload (pc := 216) dX12_readItem_216 rfl ?_
        refine P_iload (pc := 218) dX12_readItem_218 rfl ?_
        refine P_iload (pc := 220) dX12_readItem_220 rfl ?_
        have hlt : s 116 1 < 4 := by have h9 := h212; simp only [Bool.and_eq_true, decide_eq_true_eq] at h9; exact h9.1.1.1
        obtain ⟨_, _, _, kf, rfl, rfl, rfl⟩ := c_firstWalker (l := l) (D := D) (tw := tw) (m := s 116 1) (x := zv1 s (p + 1)) (y := zv1 s (zn1 s (p + 1))) (z := zv1 s (zn1 s (zn1 s (p + 1)))) (hR3.1 116 1 rfl) hlt
        refine P_callV (pc := 222) (S := []) (As := [_, _, _]) kf dX12_readItem_222 ok_X12_firstWalker ml_X12_81 iv_X12_firstWalker ⟨by decide, by decide⟩ zret_v rfl ⟨rfl, by decide⟩ sh_109 ⟨by decide, rfl⟩ (Nat.le_of_ble_eq_true rfl) ?_
        refine P_goto (pc := 225) (tgt := 279) dX12_readItem_225 (by decide) ?_
        exact fin (dW s (zv1 s (p + 1)) (zv1 s (zn1 s (p + 1))) (zv1 s (zn1 s (zn1 s (p + 1))))) _ true _ _ _ _ _ _ _ _ _ _ ⟨(((hR3.1.u 117 _ _).u 118 _ _).u 119 _ _).u 116 1 _, hR3.2.1, hR3.2.2.1, hR3.2.2.2.1, by rw [h212] at hR3; exact hR3.2.2.2.2.1, hR3.2.2.2.2.2⟩ ((((hW3.u (by omega)).u (by omega)).u (by omega)).u (by omega)) ((((Scr.rf.u (by simp [zDr])).u (by simp [zDr])).u (by simp [zDr])).u rfl) (by unfold zItem okW; rw [if_neg h99, if_neg h115, if_neg h103, if_pos h119, h212, if_pos rfl, h119]; simp)
  by_cases h114 : s 110 p = 114
  · refine P_lookup (pc := 21) (off := 207) (tgt := 228) dX12_readItem_21 (by decide) (by rw [h114]; decide) (by decide) ?_
    refine P_aload_n (pc := 228) dX12_readItem_228 rfl ?_
    refine P_iconst (pc := 229) (x := nI 0) dX12_readItem_229 (by decide) ?_
    refine P_bipush (pc := 230) (x := nI 9) dX12_readItem_230 (by decide) ?_
    refine P_bipush (pc := 232) (x := nI 44) dX12_readItem_232 (by decide) ?_
    obtain ⟨_, J1, _, k1, rfl, rfl, hN1, h14_1, h15_1⟩ := c_number (l := l) (D := D) (tw := tw) (lo := 0) (hi := 9) (be := 44) (hR00.X ht hx) hR00.2.2.2.1 hR00.2.2.2.2.1 (by omega) (by omega) (by omega) (by omega)
    have hR1 : RefR s J1 (zn1 s (p + 1)) _ f := hR00.num hN1 h14_1 h15_1
    have hW1 := (hW00).trans hN1.W
    refine P_callV (pc := 234) (S := []) (As := [_, _, _]) k1 dX12_readItem_234 ok_X12_number ml_X12_112 iv_X12_number ⟨by decide, by decide⟩ (zret_i _) rfl ⟨rfl, by decide⟩ sh_109 ⟨by decide, rfl⟩ (Nat.le_of_ble_eq_true rfl) ?_
    refine P_istore (pc := 237) dX12_readItem_237 (by decide) rfl ?_
    refine P_aload_n (pc := 239) dX12_readItem_239 rfl ?_
    refine P_iconst (pc := 240) (x := nI 0) dX12_readItem_240 (by decide) ?_
    refine P_bipush (pc := 241) (x := nI 9) dX12_readItem_241 (by decide) ?_
    refine P_bipush (pc := 243) (x := nI 44) dX12_readItem_243 (by decide) ?_
    obtain ⟨_, J2, _, k2, rfl, rfl, hN2, h14_2, h15_2⟩ := c_number (l := l) (D := D) (tw := tw) (lo := 0) (hi := 9) (be := 44) (hR1.X ht hx) hR1.2.2.2.1 hR1.2.2.2.2.1 (by omega) (by omega) (by omega) (by omega)
    have hR2 : RefR s J2 (zn1 s (zn1 s (p + 1))) _ f := hR1.num hN2 h14_2 h15_2
    have hW2 := (hW1).trans hN2.W
    refine P_callV (pc := 245) (S := []) (As := [_, _, _]) k2 dX12_readItem_245 ok_X12_number ml_X12_112 iv_X12_number ⟨by decide, by decide⟩ (zret_i _) rfl ⟨rfl, by decide⟩ sh_109 ⟨by decide, rfl⟩ (Nat.le_of_ble_eq_true rfl) ?_
    refine P_istore (pc := 248) dX12_readItem_248 (by decide) rfl ?_
    refine P_aload_n (pc := 250) dX12_readItem_250 rfl ?_
    refine P_iconst (pc := 251) (x := nI 0) dX12_readItem_251 (by decide) ?_
    refine P_bipush (pc := 252) (x := nI 9) dX12_readItem_252 (by decide) ?_
    refine P_bipush (pc := 254) (x := nI 59) dX12_readItem_254 (by decide) ?_
    obtain ⟨_, J3, _, k3, rfl, rfl, hN3, h14_3, h15_3⟩ := c_number (l := l) (D := D) (tw := tw) (lo := 0) (hi := 9) (be := 59) (hR2.X ht hx) hR2.2.2.2.1 hR2.2.2.2.2.1 (by omega) (by omega) (by omega) (by omega)
    have hR3 : RefR s J3 (zn1 s (zn1 s (zn1 s (p + 1)))) _ f := hR2.num hN3 h14_3 h15_3
    have hW3 := (hW2).trans hN3.W
    refine P_callV (pc := 256) (S := []) (As := [_, _, _]) k3 dX12_readItem_256 ok_X12_number ml_X12_112 iv_X12_number ⟨by decide, by decide⟩ (zret_i _) rfl ⟨rfl, by decide⟩ sh_109 ⟨by decide, rfl⟩ (Nat.le_of_ble_eq_true rfl) ?_
    refine P_istore (pc := 259) dX12_readItem_259 (by decide) rfl ?_
    refine P_aload_n (pc := 261) dX12_readItem_261 rfl ?_
    refine P_iload (pc := 262) dX12_readItem_262 rfl ?_
    refine P_iload (pc := 264) dX12_readItem_264 rfl ?_
    refine P_iload (pc := 266) dX12_readItem_266 rfl ?_
    obtain ⟨_, _, _, kf, rfl, rfl, rfl⟩ := c_firstRates (l := l) (D := D) (tw := tw) (I := J3) (r := zv1 s (p + 1)) (d := zv1 s (zn1 s (p + 1))) (q := zv1 s (zn1 s (zn1 s (p + 1))))
    refine P_callV (pc := 268) (S := []) (As := [_, _, _]) kf dX12_readItem_268 ok_X12_firstRates ml_X12_84 iv_X12_firstRates ⟨by decide, by decide⟩ zret_v rfl ⟨rfl, by decide⟩ sh_109 ⟨by decide, rfl⟩ (Nat.le_of_ble_eq_true rfl) ?_
    refine P_goto (pc := 271) (tgt := 279) dX12_readItem_271 (by decide) ?_
    exact fin (dR s (zv1 s (p + 1)) (zv1 s (zn1 s (p + 1))) (zv1 s (zn1 s (zn1 s (p + 1))))) (zq3 s p) (((true && zk1 s (p + 1) 0 9 44) && zk1 s (zn1 s (p + 1)) 0 9 44) && zk1 s (zn1 s (zn1 s (p + 1))) 0 9 59) _ _ _ _ _ _ _ _ _ _ ⟨((hR3.1.u 120 3 _).u 120 4 _).u 120 5 _, hR3.2.1, hR3.2.2.1, hR3.2.2.2.1, hR3.2.2.2.2.1, hR3.2.2.2.2.2⟩ (((hW3.u (by omega)).u (by omega)).u (by omega)) (((Scr.rf.u rfl).u rfl).u rfl) (by
      unfold zItem okR
      rw [if_neg h99, if_neg h115, if_neg h103, if_neg h119, if_pos h114, h114]
      cases hb : (((true && zk1 s (p + 1) 0 9 44) && zk1 s (zn1 s (p + 1)) 0 9 44) && zk1 s (zn1 s (zn1 s (p + 1))) 0 9 59) with
      | false => rfl
      | true => simp)
  refine P_lookup (pc := 21) (off := 253) (tgt := 274) dX12_readItem_21 (by decide) (lk_d (fun q hq => by show q.1 ≠ (nI (s 110 p)).toInt; rw [nI_toInt (by omega)]; simp only [List.mem_cons, List.mem_nil_iff, or_false] at hq; rcases hq with rfl | rfl | rfl | rfl | rfl <;> (simp only [ne_eq]; omega))) (by decide) ?_
  refine P_aload_n (pc := 274) dX12_readItem_274 rfl ?_
  refine P_iconst (pc := 275) (x := nI 0) dX12_readItem_275 (by decide) ?_
  refine P_puti (pc := 276) 12 15 dX12_readItem_276 fl_X12_108 sh_109 fp_12_15 (by decide) (by decide) ?_
  exact fin s _ false _ _ _ _ _ _ _ _ _ _ (hR00.num (zFN.rf.f (Or.inr rfl)) hR00.2.2.2.1 (zu_s _ _ _ _)) (hW00.u (Or.inr ⟨rfl, by omega, by omega⟩)) Scr.rf (by unfold zItem; rw [if_neg h99, if_neg h115, if_neg h103, if_neg h119, if_neg h114])
