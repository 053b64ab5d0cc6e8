set_option maxRecDepth 20000 in
set_option maxHeartbeats 1000000 in
theorem c_go {l : Launch} {D : va_G} {tw : Nat} {I : AI} {s : Nat → Nat → Nat} (hR : RefV s I) (hT : RefT s) {b kd fm a to : Nat} (hkd : kd < 4) (hb : b ≤ 352) (hSg : RefS s b) (hfm : fm < 8) (ha : a < 8) (hto : to < 8) : ZP l D zm_X12_go 0 (zent 10 [.ref 109, .int (nI b), .int (nI kd), .int (nI fm), .int (nI a), .int (nI to)]) [] I (zF tw) (fun v J G => v = none ∧ G = zF tw ∧ zGoP (zTrS s b kd fm a to) a I J) := by
  have fin : ∀ (st mi wr tx c : Nat) (cm : Option Nat) (be : Nat → Nat) (sy : Nat → Bool) (x8 : Int32) (v9 : Option Value) (J : AI), zFG I J → J 109 23 = nI st → J 109 24 = nI mi → J 109 25 = nI wr → J 109 26 = nI tx → (∀ k, k ≤ st → J 125 k = nI (be k)) → (∀ x, J 126 x = I 126 x + nI (zTl be sy st x)) → st ≤ 30 → c < 8 → (st, mi, wr, tx, c, cm, be, sy) = zTrS s b kd fm a to → ZP l D zm_X12_go 246 [some (.ref 109), some (.int (nI b)), some (.int (nI kd)), some (.int (nI fm)), some (.int (nI a)), some (.int (nI to)), some (.int (zo (-1) cm)), some (.int (nI c)), some (.int x8), v9] [] J (zF tw) (fun v J G => v = none ∧ G = zF tw ∧ zGoP (zTrS s b kd fm a to) a I J) := by
    intro st mi wr tx c cm be sy x8 v9 J hF h23 h24 h25 h26 hbe htl hst30 hc hgo
    have fill : ∀ (d k : Nat) (K : AI), 31 - k < d → st < k ∧ k ≤ 31 → zFG I K → K 109 23 = nI st → K 109 24 = nI mi → K 109 25 = nI wr → K 109 26 = nI tx → (∀ j, j < k → K 125 j = nI (if j ≤ st then be j else c)) → (∀ x, K 126 x = I 126 x + nI (zTl be sy st x)) → ZP l D zm_X12_go 254 [some (.ref 109), some (.int (nI b)), some (.int (nI kd)), some (.int (nI fm)), some (.int (nI a)), some (.int (nI to)), some (.int (zo (-1) cm)), some (.int (nI c)), some (.int x8), some (.int (nI k))] [] K (zF tw) (fun v J G => v = none ∧ G = zF tw ∧ zGoP (zTrS s b kd fm a to) a I J) := by
      intro d
      induction d with
      | zero =>
        intro k K hd
        exact absurd hd (by omega)
      | succ d ih2 =>
        intro k K hd hk hG g23 g24 g25 g26 gbe gtl
        refine P_iload (pc := 254) dX12_go_254 rfl ?_
        refine P_bipush (pc := 256) (x := nI 30) dX12_go_256 (by decide) ?_
        refine P_icmp_gtN (pc := 258) (tgt := 276) dX12_go_258 (by decide) (by omega) (by omega) (fun h258 => ?_) (fun h258 => ?_)
        · refine P_aload_n (pc := 276) dX12_go_276 rfl ?_
          refine P_iload (pc := 277) dX12_go_277 rfl ?_
          refine P_iload (pc := 279) dX12_go_279 rfl ?_
          refine P_sel2 (pc := 281) (zb (decide (c = a))) 289 (fun k289_281 => ?_) ?_
          · refine P_icmp_neN (pc := 281) (tgt := 288) dX12_go_281 (by decide) (by omega) (by omega) (fun h281 => ?_) (fun h281 => ?_)
            · refine P_iconst (pc := 288) (x := nI 0) dX12_go_288 (by decide) ?_
              exact k289_281 _ (by first | rw [decide_eq_false (by omega)]; rfl | rw [decide_eq_true (by omega)]; rfl)
            · refine P_iconst (pc := 284) (x := nI 1) dX12_go_284 (by decide) ?_
              refine P_goto (pc := 285) (tgt := 289) dX12_go_285 (by decide) ?_
              exact k289_281 _ (by first | rw [decide_eq_false (by omega)]; rfl | rw [decide_eq_true (by omega)]; rfl)
          · refine P_puti (pc := 289) 12 27 dX12_go_289 fl_X12_186 sh_109 fp_12_27 (by cases (decide (c = a)) <;> rfl) (by cases (decide (c = a)) <;> rfl) ?_
            refine P_ret (pc := 292) dX12_go_292 ?_
            rw [← hgo]
            refine ⟨rfl, rfl, hG.f (by omega) (by omega), g23, g24, g25, g26, rfl, fun j hj => ?_, gtl⟩
            unfold zAt
            exact gbe j (by omega)
        · refine P_aload_n (pc := 261) dX12_go_261 rfl ?_
          refine P_getr (pc := 262) 12 22 dX12_go_262 fl_X12_56 sh_109 fr_12_22 F_109_22 ?_
          refine P_iload (pc := 265) dX12_go_265 rfl ?_
          refine P_iload (pc := 267) dX12_go_267 rfl ?_
          refine P_iast (pc := 269) (k) dX12_go_269 sh_125 rfl (by omega) (by decide) ?_
          refine P_iincN (pc := 270) (c := 1) dX12_go_270 rfl (by decide) (by decide) rfl ?_
          refine P_goto (pc := 273) (tgt := 254) dX12_go_273 (by decide) ?_
          refine ih2 (k + 1) _ (by omega) (by omega) (hG.b) g23 g24 g25 g26 (fun j hj => ?_) gtl
          by_cases e : j = k
          · subst e
            rw [zu_s, if_neg (by omega)]
          · rw [zu_n _ _ e]
            exact gbe j (by omega)
    refine P_aload_n (pc := 246) dX12_go_246 rfl ?_
    refine P_geti (pc := 247) 12 23 (x := nI (st)) dX12_go_247 fl_X12_170 sh_109 fi_12_23 (h23) ?_
    refine P_iconst (pc := 250) (x := nI 1) dX12_go_250 (by decide) ?_
    refine P_iaddN (pc := 251) dX12_go_251 ?_
    refine P_istore (pc := 252) dX12_go_252 (by decide) rfl ?_
    exact fill (31 - (st + 1) + 1) (st + 1) J (by omega) (by omega) hF h23 h24 h25 h26 (fun j hj => by rw [if_pos (by omega)]; exact hbe j (by omega)) htl
  have loop : ∀ (d st mi wr tx c : Nat) (cm : Option Nat) (be : Nat → Nat) (sy : Nat → Bool) (gs : Nat) (v9 : Option Value) (J : AI), 31 - st < d → st ≤ 30 → zFG I J → J 109 23 = nI st → J 109 24 = nI mi → J 109 25 = nI wr → J 109 26 = nI tx → (∀ k, k ≤ st → J 125 k = nI (be k)) → (∀ x, J 126 x = I 126 x + nI (zTl be sy st x)) → c < 8 → be st = c → (∀ m, cm = some m → m < 8 ∧ s 123 (8 * c + m) < 10000) → zGo (zNx (s 111 0) (s 123) (s 124) (sgAt s b a) kd a) (fun c n => zOnB (s 123) (s 124) c n to) (s 123) kd (s 120 0) (s 120 1) (s 120 2) a (30 - st) st mi wr tx c cm be sy = zTrS s b kd fm a to → ZP l D zm_X12_go 36 [some (.ref 109), some (.int (nI b)), some (.int (nI kd)), some (.int (nI fm)), some (.int (nI a)), some (.int (nI to)), some (.int (zo (-1) cm)), some (.int (nI c)), some (.int (nI 1)), v9] [] J (zF tw) (fun v J G => v = none ∧ G = zF tw ∧ zGoP (zTrS s b kd fm a to) a I J) := by
    intro d
    induction d with
    | zero =>
      intro st mi wr tx c cm be sy gs v9 J hd
      exact absurd hd (by omega)
    | succ d ih =>
      intro st mi wr tx c cm be sy gs v9 J hd hst30 hF h23 h24 h25 h26 hbe htl hc hbc hcm hgo
      refine P_iload (pc := 36) dX12_go_36 rfl ?_
      refine P_if_eqF (pc := 38) (tgt := 246) dX12_go_38 (by decide) (by decide) ?_
      refine P_iload (pc := 41) dX12_go_41 rfl ?_
      refine P_iload (pc := 43) dX12_go_43 rfl ?_
      refine P_icmp_eqN (pc := 45) (tgt := 246) dX12_go_45 (by decide) (by omega) (by omega) (fun h45 => ?_) (fun h45 => ?_)
      · exact fin st mi wr tx c cm be sy _ _ J hF h23 h24 h25 h26 hbe htl hst30 hc (by rw [zGo_aim (by omega)] at hgo; exact hgo)
      · refine P_aload_n (pc := 48) dX12_go_48 rfl ?_
        refine P_geti (pc := 49) 12 23 (x := nI (st)) dX12_go_49 fl_X12_170 sh_109 fi_12_23 (h23) ?_
        refine P_bipush (pc := 52) (x := nI 30) dX12_go_52 (by decide) ?_
        refine P_icmp_geN (pc := 54) (tgt := 246) dX12_go_54 (by decide) (by omega) (by omega) (fun h54 => ?_) (fun h54 => ?_)
        · exact fin st mi wr tx c cm be sy _ _ J hF h23 h24 h25 h26 hbe htl hst30 hc (by rw [show 30 - st = 0 by omega] at hgo; exact hgo)
        · refine P_aload_n (pc := 57) dX12_go_57 rfl ?_
          refine P_iload_n (pc := 58) dX12_go_58 rfl ?_
          refine P_iload_n (pc := 59) dX12_go_59 rfl ?_
          refine P_iload (pc := 60) dX12_go_60 rfl ?_
          refine P_iload (pc := 62) dX12_go_62 rfl ?_
          refine P_iload (pc := 64) dX12_go_64 rfl ?_
          obtain ⟨_, _, _, k9, rfl, rfl, rfl⟩ := c_nextOf (l := l) (D := D) (tw := tw) (hF.R hR) hT.1 hT.2.1 (b := b) (kd := kd) (c := c) (a := a) (cm := cm) hkd hb hSg.1 hSg.2 hc ha hcm
          refine P_callV (pc := 66) (S := []) (As := [_, _, _, _, _]) k9 dX12_go_66 ok_X12_nextOf ml_X12_182 iv_X12_nextOf ⟨by decide, by decide⟩ (zret_i _) rfl ⟨rfl, by decide⟩ sh_109 ⟨by decide, rfl⟩ (Nat.le_of_ble_eq_true rfl) ?_
          rcases hx : zNx (s 111 0) (s 123) (s 124) (sgAt s b a) kd a c cm with _ | n
          · have hgo2 := hgo
            rw [zGo_none hx] at hgo2
            refine P_istore (pc := 69) dX12_go_69 (by decide) rfl ?_
            refine P_iload (pc := 71) dX12_go_71 rfl ?_
            refine P_bipush (pc := 73) (x := (-4)) dX12_go_73 (by decide) ?_
            refine P_icmp_eqT (pc := 75) (tgt := 82) dX12_go_75 (by decide) (by decide) ?_
            refine P_iconst (pc := 82) (x := nI 0) dX12_go_82 (by decide) ?_
            refine P_istore (pc := 83) dX12_go_83 (by decide) rfl ?_
            refine P_iload (pc := 85) dX12_go_85 rfl ?_
            refine P_if_eqT (pc := 87) (tgt := 243) dX12_go_87 (by decide) (by decide) ?_
            refine P_goto (pc := 243) (tgt := 36) dX12_go_243 (by decide) ?_
            refine P_iload (pc := 36) dX12_go_36 rfl ?_
            refine P_if_eqT (pc := 38) (tgt := 246) dX12_go_38 (by decide) (by decide) ?_
            exact fin st mi wr tx c cm be sy _ _ J hF h23 h24 h25 h26 hbe htl hst30 hc hgo2
          · have hnok := zNx_ok hT.2.1 hcm (fun p e => zSign_lt (b := 8) (fun j hj => (hSg.2 j hj).2.2) e) hx
            have hnn := hT.1.1 (8 * c + n)
            have hst : ∃ f, 30 - st = f + 1 ∧ 30 - (st + 1) = f := ⟨30 - st - 1, by omega, by omega⟩
            obtain ⟨f, hf1, hf2⟩ := hst
            have hgo2 := hgo
            rw [hf1, zGo_some (by omega) hx] at hgo2
            refine P_istore (pc := 69) dX12_go_69 (by decide) rfl ?_
            refine P_iload (pc := 71) dX12_go_71 rfl ?_
            refine P_bipush (pc := 73) (x := (-4)) dX12_go_73 (by decide) ?_
            refine P_icmp_eqF (pc := 75) (tgt := 82) dX12_go_75 (by decide) (zne4 (by omega)) ?_
            refine P_iconst (pc := 78) (x := nI 1) dX12_go_78 (by decide) ?_
            refine P_goto (pc := 79) (tgt := 83) dX12_go_79 (by decide) ?_
            refine P_istore (pc := 83) dX12_go_83 (by decide) rfl ?_
            refine P_iload (pc := 85) dX12_go_85 rfl ?_
            refine P_if_eqF (pc := 87) (tgt := 243) dX12_go_87 (by decide) (by decide) ?_
            refine P_aload_n (pc := 90) dX12_go_90 rfl ?_
            refine P_dup (pc := 91) dX12_go_91 rfl ?_
            refine P_geti (pc := 92) 12 24 (x := nI (mi)) dX12_go_92 fl_X12_173 sh_109 fi_12_24 (h24) ?_
            refine P_aload_n (pc := 95) dX12_go_95 rfl ?_
            refine P_getr (pc := 96) 12 20 dX12_go_96 fl_X12_50 sh_109 fr_12_20 F_109_20 ?_
            refine P_bipush (pc := 99) (x := nI 8) dX12_go_99 (by decide) ?_
            refine P_iload (pc := 101) dX12_go_101 rfl ?_
            refine P_imulN (pc := 103) dX12_go_103 ?_
            refine P_iload (pc := 104) dX12_go_104 rfl ?_
            refine P_iaddN (pc := 106) dX12_go_106 ?_
            refine P_iald (pc := 107) (((8 * c) + n)) (x := nI (s 123 ((8 * c) + n))) dX12_go_107 sh_123 rfl (by omega) (by decide) ((hF.R hR) 123 _ rfl) ?_
            refine P_iload_n (pc := 108) dX12_go_108 rfl ?_
            refine P_iconst (pc := 109) (x := nI 2) dX12_go_109 (by decide) ?_
            refine P_sel2 (pc := 110) (nI (if kd = 2 then 1 else 0)) 118 (fun k118_110 => ?_) ?_
            · refine P_icmp_neN (pc := 110) (tgt := 117) dX12_go_110 (by decide) (by omega) (by omega) (fun h110 => ?_) (fun h110 => ?_)
              · refine P_iconst (pc := 117) (x := nI 0) dX12_go_117 (by decide) ?_
                exact k118_110 _ (by first | rw [if_pos (by omega)] | rw [if_neg (by omega)])
              · refine P_iconst (pc := 113) (x := nI 1) dX12_go_113 (by decide) ?_
                refine P_goto (pc := 114) (tgt := 118) dX12_go_114 (by decide) ?_
                exact k118_110 _ (by first | rw [if_pos (by omega)] | rw [if_neg (by omega)])
            · refine P_iaddN (pc := 118) dX12_go_118 ?_
              refine P_iaddN (pc := 119) dX12_go_119 ?_
              refine P_puti (pc := 120) 12 24 dX12_go_120 fl_X12_173 sh_109 fp_12_24 rfl rfl ?_
              refine P_aload_n (pc := 123) dX12_go_123 rfl ?_
              refine P_dup (pc := 124) dX12_go_124 rfl ?_
              refine P_geti (pc := 125) 12 26 (x := nI (tx)) dX12_go_125 fl_X12_179 sh_109 fi_12_26 (h26) ?_
              refine P_iload_n (pc := 128) dX12_go_128 rfl ?_
              refine P_iconst (pc := 129) (x := nI 2) dX12_go_129 (by decide) ?_
              refine P_sel2 (pc := 130) (nI (if kd = 2 then s 120 2 else 0)) 143 (fun k143_130 => ?_) ?_
              · refine P_icmp_neN (pc := 130) (tgt := 142) dX12_go_130 (by decide) (by omega) (by omega) (fun h130 => ?_) (fun h130 => ?_)
                · refine P_iconst (pc := 142) (x := nI 0) dX12_go_142 (by decide) ?_
                  exact k143_130 _ (by first | rw [if_pos (by omega)] | rw [if_neg (by omega)])
                · refine P_aload_n (pc := 133) dX12_go_133 rfl ?_
                  refine P_getr (pc := 134) 12 11 dX12_go_134 fl_X12_41 sh_109 fr_12_11 F_109_11 ?_
                  refine P_iconst (pc := 137) (x := nI 2) dX12_go_137 (by decide) ?_
                  refine P_iald (pc := 138) (2) (x := nI (s 120 2)) dX12_go_138 sh_120 rfl (by omega) (by decide) ((hF.R hR) 120 _ rfl) ?_
                  refine P_goto (pc := 139) (tgt := 143) dX12_go_139 (by decide) ?_
                  exact k143_130 _ (by first | rw [if_pos (by omega)] | rw [if_neg (by omega)])
              · refine P_iaddN (pc := 143) dX12_go_143 ?_
                refine P_puti (pc := 144) 12 26 dX12_go_144 fl_X12_179 sh_109 fp_12_26 rfl rfl ?_
                refine P_aload_n (pc := 147) dX12_go_147 rfl ?_
                refine P_iload (pc := 148) dX12_go_148 rfl ?_
                refine P_iload (pc := 150) dX12_go_150 rfl ?_
                refine P_iload (pc := 152) dX12_go_152 rfl ?_
                have hF2 := (hF.f (k := 24) (x := nI (mi + (s 123 (8 * c + n) + (if kd = 2 then 1 else 0)))) (by omega) (by omega)).f (k := 26) (x := nI (tx + (if kd = 2 then s 120 2 else 0))) (by omega) (by omega)
                obtain ⟨_, _, _, k8, rfl, rfl, rfl⟩ := c_isOnWay (l := l) (D := D) (tw := tw) (hF2.R hR) hT.1 (c := c) (n := n) (t := to) hc hnok.1 hto
                refine P_callV (pc := 154) (S := []) (As := [_, _, _]) k8 dX12_go_154 ok_X12_isOnWay ml_X12_155 iv_X12_isOnWay ⟨by decide, by decide⟩ (zret_b (zOnB (s 123) (s 124) c n to)) rfl ⟨rfl, by decide⟩ sh_109 ⟨by decide, rfl⟩ (Nat.le_of_ble_eq_true rfl) ?_
                refine P_if_neB (pc := 157) (tgt := 214) dX12_go_157 (by decide) (fun h157 => ?_) (fun h157 => ?_)
                · refine P_iload (pc := 214) dX12_go_214 rfl ?_
                  refine P_istore (pc := 216) dX12_go_216 (by decide) rfl ?_
                  refine P_iload (pc := 218) dX12_go_218 rfl ?_
                  refine P_istore (pc := 220) dX12_go_220 (by decide) rfl ?_
                  refine P_aload_n (pc := 222) dX12_go_222 rfl ?_
                  refine P_dup (pc := 223) dX12_go_223 rfl ?_
                  refine P_geti (pc := 224) 12 23 (x := nI (st)) dX12_go_224 fl_X12_170 sh_109 fi_12_23 (h23) ?_
                  refine P_iconst (pc := 227) (x := nI 1) dX12_go_227 (by decide) ?_
                  refine P_iaddN (pc := 228) dX12_go_228 ?_
                  refine P_puti (pc := 229) 12 23 dX12_go_229 fl_X12_170 sh_109 fp_12_23 rfl rfl ?_
                  refine P_aload_n (pc := 232) dX12_go_232 rfl ?_
                  refine P_getr (pc := 233) 12 22 dX12_go_233 fl_X12_56 sh_109 fr_12_22 F_109_22 ?_
                  refine P_aload_n (pc := 236) dX12_go_236 rfl ?_
                  refine P_geti (pc := 237) 12 23 (x := nI (st + 1)) dX12_go_237 fl_X12_170 sh_109 fi_12_23 rfl ?_
                  refine P_iload (pc := 240) dX12_go_240 rfl ?_
                  refine P_iast (pc := 242) (st + 1) dX12_go_242 sh_125 rfl (by omega) (by decide) ?_
                  refine P_goto (pc := 243) (tgt := 36) dX12_go_243 (by decide) ?_
                  refine ih (st + 1) (mi + (s 123 (8 * c + n) + (if kd = 2 then 1 else 0))) (wr + (if zOnB (s 123) (s 124) c n to = true then 0 else 1)) (tx + (if kd = 2 then s 120 2 else 0) + (if zOnB (s 123) (s 124) c n to = true then 0 else (s 120 0 + (if some n = cm then s 120 1 else 0)))) n (some c) (va_up be (st + 1) n) (va_up sy st (!zOnB (s 123) (s 124) c n to)) 1 (some (.int (nI n))) _ (by omega) (by omega) (((hF.f (k := 24) (by omega) (by omega)).f (k := 26) (by omega) (by omega)).f (k := 23) (by omega) (by omega)).b rfl rfl ?_ ?_ ?_ ?_ hnok.1 ?_ ?_ ?_
                  · exact h25.trans (by rw [if_pos h157, Nat.add_zero])
                  · exact congrArg nI (by rw [if_pos h157, Nat.add_zero])
                  · intro k hk
                    by_cases e : k = st + 1
                    · subst e
                      rw [zu_s, va_up_s]
                      rfl
                    · rw [zu_n _ _ e, va_up_n _ _ e]
                      exact hbe k (by omega)
                  · intro x
                    show J 126 x = _
                    have e1 : zTl (va_up be (st + 1) n) (va_up sy st (!zOnB (s 123) (s 124) c n to)) st x = zTl be sy st x := zTl_congr (fun j hj => ⟨va_up_n _ _ (by omega), va_up_n _ _ (by omega)⟩)
                    rw [zTl, e1, va_up_s, va_up_n _ _ (show st ≠ st + 1 by omega), hbc]
                    rw [h157, if_neg (fun z => absurd z.1 (by decide)), Nat.add_zero]
                    exact htl x
                  · exact va_up_s _ _ _
                  · intro m hm
                    cases hm
                    exact ⟨hc, by rw [hT.2.2.1 n c hnok.1 hc]; exact hnok.2⟩
                  · rw [hf2]
                    exact hgo2
                · refine P_aload_n (pc := 160) dX12_go_160 rfl ?_
                  refine P_dup (pc := 161) dX12_go_161 rfl ?_
                  refine P_geti (pc := 162) 12 25 (x := nI (wr)) dX12_go_162 fl_X12_176 sh_109 fi_12_25 (h25) ?_
                  refine P_iconst (pc := 165) (x := nI 1) dX12_go_165 (by decide) ?_
                  refine P_iaddN (pc := 166) dX12_go_166 ?_
                  refine P_puti (pc := 167) 12 25 dX12_go_167 fl_X12_176 sh_109 fp_12_25 rfl rfl ?_
                  refine P_aload_n (pc := 170) dX12_go_170 rfl ?_
                  refine P_getr (pc := 171) 12 28 dX12_go_171 fl_X12_59 sh_109 fr_12_28 F_109_28 ?_
                  refine P_iload (pc := 174) dX12_go_174 rfl ?_
                  refine P_dup2 (pc := 176) dX12_go_176 rfl rfl ?_
                  refine P_iald (pc := 177) (c) (x := J 126 c) dX12_go_177 sh_126 rfl (by omega) (by decide) (rfl) ?_
                  refine P_iconst (pc := 178) (x := nI 1) dX12_go_178 (by decide) ?_
                  refine P_iadd (pc := 179) dX12_go_179 ?_
                  refine P_iast (pc := 180) (c) dX12_go_180 sh_126 rfl (by omega) (by decide) ?_
                  refine P_aload_n (pc := 181) dX12_go_181 rfl ?_
                  refine P_dup (pc := 182) dX12_go_182 rfl ?_
                  refine P_geti (pc := 183) 12 26 (x := nI (tx + (if kd = 2 then s 120 2 else 0))) dX12_go_183 fl_X12_179 sh_109 fi_12_26 (rfl) ?_
                  refine P_aload_n (pc := 186) dX12_go_186 rfl ?_
                  refine P_getr (pc := 187) 12 11 dX12_go_187 fl_X12_41 sh_109 fr_12_11 F_109_11 ?_
                  refine P_iconst (pc := 190) (x := nI 0) dX12_go_190 (by decide) ?_
                  refine P_iald (pc := 191) (0) (x := nI (s 120 0)) dX12_go_191 sh_120 rfl (by omega) (by decide) ((hF.R hR) 120 _ rfl) ?_
                  refine P_iload (pc := 192) dX12_go_192 rfl ?_
                  refine P_iload (pc := 194) dX12_go_194 rfl ?_
                  refine P_sel2 (pc := 196) (nI (if some n = cm then s 120 1 else 0)) 209 (fun k209_196 => ?_) ?_
                  · refine P_icmp_ne (pc := 196) (tgt := 208) dX12_go_196 (by decide) (fun h196 => ?_) (fun h196 => ?_)
                    · refine P_iconst (pc := 208) (x := nI 0) dX12_go_208 (by decide) ?_
                      exact k209_196 _ (by first | rw [if_neg (fun z => h196 ((zo_eq1 (by omega) (fun m e => by have := hcm m e; omega)).mpr z))] | rw [if_pos ((zo_eq1 (by omega) (fun m e => by have := hcm m e; omega)).mp h196)] | rw [if_pos ((zo_eq1 (by omega) (fun m e => by have := hcm m e; omega)).mp (Classical.byContradiction h196))])
                    · refine P_aload_n (pc := 199) dX12_go_199 rfl ?_
                      refine P_getr (pc := 200) 12 11 dX12_go_200 fl_X12_41 sh_109 fr_12_11 F_109_11 ?_
                      refine P_iconst (pc := 203) (x := nI 1) dX12_go_203 (by decide) ?_
                      refine P_iald (pc := 204) (1) (x := nI (s 120 1)) dX12_go_204 sh_120 rfl (by omega) (by decide) ((hF.R hR) 120 _ rfl) ?_
                      refine P_goto (pc := 205) (tgt := 209) dX12_go_205 (by decide) ?_
                      exact k209_196 _ (by first | rw [if_neg (fun z => h196 ((zo_eq1 (by omega) (fun m e => by have := hcm m e; omega)).mpr z))] | rw [if_pos ((zo_eq1 (by omega) (fun m e => by have := hcm m e; omega)).mp h196)] | rw [if_pos ((zo_eq1 (by omega) (fun m e => by have := hcm m e; omega)).mp (Classical.byContradiction h196))])
                  · refine P_iaddN (pc := 209) dX12_go_209 ?_
                    refine P_iaddN (pc := 210) dX12_go_210 ?_
                    refine P_puti (pc := 211) 12 26 dX12_go_211 fl_X12_179 sh_109 fp_12_26 rfl rfl ?_
                    refine P_iload (pc := 214) dX12_go_214 rfl ?_
                    refine P_istore (pc := 216) dX12_go_216 (by decide) rfl ?_
                    refine P_iload (pc := 218) dX12_go_218 rfl ?_
                    refine P_istore (pc := 220) dX12_go_220 (by decide) rfl ?_
                    refine P_aload_n (pc := 222) dX12_go_222 rfl ?_
                    refine P_dup (pc := 223) dX12_go_223 rfl ?_
                    refine P_geti (pc := 224) 12 23 (x := nI (st)) dX12_go_224 fl_X12_170 sh_109 fi_12_23 (h23) ?_
                    refine P_iconst (pc := 227) (x := nI 1) dX12_go_227 (by decide) ?_
                    refine P_iaddN (pc := 228) dX12_go_228 ?_
                    refine P_puti (pc := 229) 12 23 dX12_go_229 fl_X12_170 sh_109 fp_12_23 rfl rfl ?_
                    refine P_aload_n (pc := 232) dX12_go_232 rfl ?_
                    refine P_getr (pc := 233) 12 22 dX12_go_233 fl_X12_56 sh_109 fr_12_22 F_109_22 ?_
                    refine P_aload_n (pc := 236) dX12_go_236 rfl ?_
                    refine P_geti (pc := 237) 12 23 (x := nI (st + 1)) dX12_go_237 fl_X12_170 sh_109 fi_12_23 rfl ?_
                    refine P_iload (pc := 240) dX12_go_240 rfl ?_
                    refine P_iast (pc := 242) (st + 1) dX12_go_242 sh_125 rfl (by omega) (by decide) ?_
                    refine P_goto (pc := 243) (tgt := 36) dX12_go_243 (by decide) ?_
                    refine ih (st + 1) (mi + (s 123 (8 * c + n) + (if kd = 2 then 1 else 0))) (wr + (if zOnB (s 123) (s 124) c n to = true then 0 else 1)) (tx + (if kd = 2 then s 120 2 else 0) + (if zOnB (s 123) (s 124) c n to = true then 0 else (s 120 0 + (if some n = cm then s 120 1 else 0)))) n (some c) (va_up be (st + 1) n) (va_up sy st (!zOnB (s 123) (s 124) c n to)) 1 (some (.int (nI n))) _ (by omega) (by omega) ((((((hF.f (k := 24) (by omega) (by omega)).f (k := 26) (by omega) (by omega)).f (k := 25) (by omega) (by omega)).t).f (k := 26) (by omega) (by omega)).f (k := 23) (by omega) (by omega)).b rfl rfl ?_ ?_ ?_ ?_ hnok.1 ?_ ?_ ?_
                    · exact congrArg nI (by rw [h157]; rfl)
                    · exact congrArg nI (by rw [h157]; rfl)
                    · intro k hk
                      by_cases e : k = st + 1
                      · subst e
                        rw [zu_s, va_up_s]
                        rfl
                      · rw [zu_n _ _ e, va_up_n _ _ e]
                        exact hbe k (by omega)
                    · intro x
                      show zu J 126 c (J 126 c + nI 1) 126 x = _
                      have e1 : zTl (va_up be (st + 1) n) (va_up sy st (!zOnB (s 123) (s 124) c n to)) st x = zTl be sy st x := zTl_congr (fun j hj => ⟨va_up_n _ _ (by omega), va_up_n _ _ (by omega)⟩)
                      rw [zTl, e1, va_up_s, va_up_n _ _ (show st ≠ st + 1 by omega), hbc]
                      rw [h157]
                      by_cases e : x = c
                      · subst e
                        rw [zu_s, htl x, if_pos ⟨rfl, rfl⟩, ← nI_add, Int32.add_assoc]
                      · rw [zu_n _ _ e, htl x, if_neg (fun z => e z.2.symm), Nat.add_zero]
                    · exact va_up_s _ _ _
                    · intro m hm
                      cases hm
                      exact ⟨hc, by rw [hT.2.2.1 n c hnok.1 hc]; exact hnok.2⟩
                    · rw [hf2]
                      exact hgo2
  show ZP _ _ _ _ [some _, some _, some _, some _, some _, some _, none, none, none, none] _ _ _ _
  refine P_aload_n (pc := 0) dX12_go_0 rfl ?_
  refine P_iconst (pc := 1) (x := nI 0) dX12_go_1 (by decide) ?_
  refine P_puti (pc := 2) 12 23 dX12_go_2 fl_X12_170 sh_109 fp_12_23 rfl rfl ?_
  refine P_aload_n (pc := 5) dX12_go_5 rfl ?_
  refine P_iconst (pc := 6) (x := nI 0) dX12_go_6 (by decide) ?_
  refine P_puti (pc := 7) 12 24 dX12_go_7 fl_X12_173 sh_109 fp_12_24 rfl rfl ?_
  refine P_aload_n (pc := 10) dX12_go_10 rfl ?_
  refine P_iconst (pc := 11) (x := nI 0) dX12_go_11 (by decide) ?_
  refine P_puti (pc := 12) 12 25 dX12_go_12 fl_X12_176 sh_109 fp_12_25 rfl rfl ?_
  refine P_aload_n (pc := 15) dX12_go_15 rfl ?_
  refine P_iconst (pc := 16) (x := nI 0) dX12_go_16 (by decide) ?_
  refine P_puti (pc := 17) 12 26 dX12_go_17 fl_X12_179 sh_109 fp_12_26 rfl rfl ?_
  refine P_aload_n (pc := 20) dX12_go_20 rfl ?_
  refine P_getr (pc := 21) 12 22 dX12_go_21 fl_X12_56 sh_109 fr_12_22 F_109_22 ?_
  refine P_iconst (pc := 24) (x := nI 0) dX12_go_24 (by decide) ?_
  refine P_iload_n (pc := 25) dX12_go_25 rfl ?_
  refine P_iast (pc := 26) (0) dX12_go_26 sh_125 rfl (by omega) (by decide) ?_
  refine P_iconst (pc := 27) (x := (-1)) dX12_go_27 (by decide) ?_
  refine P_istore (pc := 28) dX12_go_28 (by decide) rfl ?_
  refine P_iload_n (pc := 30) dX12_go_30 rfl ?_
  refine P_istore (pc := 31) dX12_go_31 (by decide) rfl ?_
  refine P_iconst (pc := 33) (x := nI 1) dX12_go_33 (by decide) ?_
  refine P_istore (pc := 34) dX12_go_34 (by decide) rfl ?_
  refine loop 32 0 0 0 0 fm none (fun _ => fm) (fun _ => false) 1 none _ (by omega) (by omega) (((((zFG.rf.f (by omega) (by omega)).f (by omega) (by omega)).f (by omega) (by omega)).f (by omega) (by omega)).b) rfl rfl rfl rfl ?_ ?_ hfm rfl ?_ rfl
  · intro k hk
    have : k = 0 := by omega
    subst this
    rfl
  · intro x
    show I 126 x = I 126 x + nI 0
    rw [nI_0, Int32.add_zero]
  · intro m hm
    cases hm
