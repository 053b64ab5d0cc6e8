theorem vpb (b : Bool) : vp_nar .boolean (zb b) = zb b := by cases b <;> rfl
theorem znt {b : Bool} (h : (!b) = true) : b = false := by cases b <;> first | rfl | cases h
theorem znf {b : Bool} (h : (!b) = false) : b = true := by cases b <;> first | rfl | cases h
theorem zln_lt {v : Nat} (h : v < 10000) : zln v = v := if_pos h
set_option maxRecDepth 20000 in
theorem c_make_5_27 {l : Launch} {D : va_G} {tw : Nat} {I : AI} {nc : Nat} {nr fr : Nat → Nat} (hC : CSt nc nr fr I 6 10 19) {m : Nat} {gc gt gn : Nat → Nat} (hS : CSg m gc gt gn I 27) {r0 r1 r2 : Nat} (hr : I 5 3 = nI r0 ∧ I 5 4 = nI r1 ∧ I 5 5 = nI r2) {kd fm a to : Nat} (hn1 : 1 ≤ nc) (hsym : ∀ a b, a < 8 → b < 8 → nr (8 * a + b) = nr (8 * b + a)) (hkd : kd < 4) (hfm : fm < 8) (ha : a < 8) (hto : to < 8) : ZP l D zm_X9_make 0 (zent 11 [.ref 67, .ref 5, .ref 27, .int (nI kd), .int (nI fm), .int (nI a), .int (nI to)]) [] I (zF tw) (fun v J G => v = none ∧ G = zF tw ∧ zMk (zTrip (zNx nc nr fr (fun c => zSign gc gt gn c a m) kd a) (fun c n => zOnB nr fr c n to) nr kd r0 r1 r2 a fm) a I J) := by
  have fin : ∀ (st mi wr tx c : Nat) (cm : Option Nat) (be : Nat → Nat) (sy : Nat → Bool) (v10 : Option Value) (J : AI), zTf I J → J 67 2 = nI st → J 67 3 = nI mi → J 67 4 = nI wr → J 67 5 = nI tx → (∀ k, k ≤ st → J 68 k = nI (be k)) → (∀ k, k < st → J 69 k = zb (sy k)) → c < 8 → (st, mi, wr, tx, c, cm, be, sy) = zTrip (zNx nc nr fr (fun c => zSign gc gt gn c a m) kd a) (fun c n => zOnB nr fr c n to) nr kd r0 r1 r2 a fm → ZP l D zm_X9_make 238 [some (.ref 67), some (.ref 5), some (.ref 27), some (.int (nI kd)), some (.int (nI fm)), some (.int (nI a)), some (.int (nI to)), some (.int (zo (-1) cm)), some (.int (nI c)), some (.int (nI st)), v10] [] J (zF tw) (fun v J G => v = none ∧ G = zF tw ∧ zMk (zTrip (zNx nc nr fr (fun c => zSign gc gt gn c a m) kd a) (fun c n => zOnB nr fr c n to) nr kd r0 r1 r2 a fm) a I J) := by
    intro st mi wr tx c cm be sy v10 J hF h2 h3 h4 h5 hbe hsy hc hgo
    refine P_aload_n (pc := 238) dX9_make_238 rfl ?_
    refine P_iload (pc := 239) dX9_make_239 rfl ?_
    refine P_iload (pc := 241) dX9_make_241 rfl ?_
    refine P_sel2 (pc := 243) (zb (decide (c = a))) 251 (fun k251_243 => ?_) ?_
    · refine P_icmp_neN (pc := 243) (tgt := 250) dX9_make_243 (by decide) (by omega) (by omega) (fun h243 => ?_) (fun h243 => ?_)
      · refine P_iconst (pc := 250) (x := nI 0) dX9_make_250 (by decide) ?_
        exact k251_243 _ (by first | rw [decide_eq_false (by omega)]; rfl | rw [decide_eq_true (by omega)]; rfl)
      · refine P_iconst (pc := 246) (x := nI 1) dX9_make_246 (by decide) ?_
        refine P_goto (pc := 247) (tgt := 251) dX9_make_247 (by decide) ?_
        exact k251_243 _ (by first | rw [decide_eq_false (by omega)]; rfl | rw [decide_eq_true (by omega)]; rfl)
    · refine P_puti (pc := 251) 9 6 dX9_make_251 fl_X9_61 sh_67 fp_9_6 (by cases (decide (c = a)) <;> rfl) (by cases (decide (c = a)) <;> rfl) ?_
      refine P_ret (pc := 254) dX9_make_254 ?_
      rw [← hgo]
      exact ⟨rfl, rfl, hF.u (by decide), h2, h3, h4, h5, rfl, hbe, hsy⟩
  have loop : ∀ (d st mi wr tx c : Nat) (cm : Option Nat) (be : Nat → Nat) (sy : Nat → Bool) (v10 : Option Value) (J : AI), 31 - st < d → st ≤ 30 → zTf I J → J 67 2 = nI st → J 67 3 = nI mi → J 67 4 = nI wr → J 67 5 = nI tx → (∀ k, k ≤ st → J 68 k = nI (be k)) → (∀ k, k < st → J 69 k = zb (sy k)) → c < 8 → (∀ m, cm = some m → m < 8 ∧ nr (8 * c + m) < 10000) → zGo (zNx nc nr fr (fun c => zSign gc gt gn c a m) kd a) (fun c n => zOnB nr fr c n to) nr kd r0 r1 r2 a (30 - st) st mi wr tx c cm be sy = zTrip (zNx nc nr fr (fun c => zSign gc gt gn c a m) kd a) (fun c n => zOnB nr fr c n to) nr kd r0 r1 r2 a fm → ZP l D zm_X9_make 38 [some (.ref 67), some (.ref 5), some (.ref 27), some (.int (nI kd)), some (.int (nI fm)), some (.int (nI a)), some (.int (nI to)), some (.int (zo (-1) cm)), some (.int (nI c)), some (.int (nI st)), v10] [] J (zF tw) (fun v J G => v = none ∧ G = zF tw ∧ zMk (zTrip (zNx nc nr fr (fun c => zSign gc gt gn c a m) kd a) (fun c n => zOnB nr fr c n to) nr kd r0 r1 r2 a fm) a I J) := by
    intro d
    induction d with
    | zero =>
      intro st mi wr tx c cm be sy v10 J hd
      exact absurd hd (by omega)
    | succ d ih =>
      intro st mi wr tx c cm be sy v10 J hd hst30 hF h2 h3 h4 h5 hbe hsy hc hcm hgo
      refine P_iload (pc := 38) dX9_make_38 rfl ?_
      refine P_bipush (pc := 40) (x := nI 30) dX9_make_40 (by decide) ?_
      refine P_icmp_geN (pc := 42) (tgt := 238) dX9_make_42 (by decide) (by omega) (by omega) (fun h42 => ?_) (fun h42 => ?_)
      · exact fin st mi wr tx c cm be sy _ J hF h2 h3 h4 h5 hbe hsy hc (by rw [show 30 - st = 0 by omega] at hgo; exact hgo)
      · refine P_iload (pc := 45) dX9_make_45 rfl ?_
        refine P_iload (pc := 47) dX9_make_47 rfl ?_
        refine P_icmp_eqN (pc := 49) (tgt := 238) dX9_make_49 (by decide) (by omega) (by omega) (fun h49 => ?_) (fun h49 => ?_)
        · exact fin st mi wr tx c cm be sy _ J hF h2 h3 h4 h5 hbe hsy hc (by rw [zGo_aim (by omega)] at hgo; exact hgo)
        · refine P_aload_n (pc := 52) dX9_make_52 rfl ?_
          refine P_getr (pc := 53) 8 0 dX9_make_53 fl_X9_32 sh_5 fr_8_0 F_5_0 ?_
          refine P_aload_n (pc := 56) dX9_make_56 rfl ?_
          refine P_iload_n (pc := 57) dX9_make_57 rfl ?_
          refine P_iload (pc := 58) dX9_make_58 rfl ?_
          refine P_iload (pc := 60) dX9_make_60 rfl ?_
          refine P_iload (pc := 62) dX9_make_62 rfl ?_
          obtain ⟨_, _, _, k9, rfl, rfl, rfl⟩ := c_choose_5_27 (l := l) (D := D) (tw := tw) (hC.tf hF hs_5) (hS.tf hF hg_27) (kd := kd) (h := c) (a := a) (cm := cm) hn1 hkd hc ha (fun m e => (hcm m e).1)
          refine P_callS (pc := 64) (S := []) (As := [_, _, _, _, _, _]) k9 dX9_make_64 ok_X9_choose ml_X9_38 is_X9_choose ⟨by decide, by decide⟩ (zret_i _) rfl ⟨rfl, by decide⟩ (Nat.le_of_ble_eq_true rfl) ?_
          rcases hx : zNx nc nr fr (fun c => zSign gc gt gn c a m) kd a c cm with _ | n
          · have hgo2 := hgo
            rw [zGo_none hx] at hgo2
            refine P_istore (pc := 67) dX9_make_67 (by decide) rfl ?_
            refine P_iload (pc := 69) dX9_make_69 rfl ?_
            refine P_iconst (pc := 71) (x := (-1)) dX9_make_71 (by decide) ?_
            refine P_icmp_neF (pc := 72) (tgt := 78) dX9_make_72 (by decide) (by decide) ?_
            refine P_goto (pc := 75) (tgt := 238) dX9_make_75 (by decide) ?_
            exact fin st mi wr tx c cm be sy _ J hF h2 h3 h4 h5 hbe hsy hc hgo2
          · have hnok := zNx_ok hC.2.1 hcm (fun p e => zSign_lt (b := 8) (fun j hj => (hS.2.2 j hj).2.2.2) e) hx
            have hst : ∃ f, 30 - st = f + 1 ∧ 30 - (st + 1) = f := ⟨30 - st - 1, by omega, by omega⟩
            obtain ⟨f, hf1, hf2⟩ := hst
            have hgo2 := hgo
            rw [hf1, zGo_some (by omega) hx] at hgo2
            refine P_istore (pc := 67) dX9_make_67 (by decide) rfl ?_
            refine P_iload (pc := 69) dX9_make_69 rfl ?_
            refine P_iconst (pc := 71) (x := (-1)) dX9_make_71 (by decide) ?_
            refine P_icmp_neT (pc := 72) (tgt := 78) dX9_make_72 (by decide) (zne1 (by omega)) ?_
            refine P_iload_n (pc := 78) dX9_make_78 rfl ?_
            refine P_iconst (pc := 79) (x := nI 2) dX9_make_79 (by decide) ?_
            refine P_icmp_neN (pc := 80) (tgt := 106) dX9_make_80 (by decide) (by omega) (by omega) (fun h80 => ?_) (fun h80 => ?_)
            · refine P_aload_n (pc := 106) dX9_make_106 rfl ?_
              refine P_dup (pc := 107) dX9_make_107 rfl ?_
              refine P_geti (pc := 108) 9 3 (x := nI (mi)) dX9_make_108 fl_X9_23 sh_67 fi_9_3 (h3) ?_
              refine P_aload_n (pc := 111) dX9_make_111 rfl ?_
              refine P_getr (pc := 112) 8 0 dX9_make_112 fl_X9_32 sh_5 fr_8_0 F_5_0 ?_
              refine P_getr (pc := 115) 6 4 dX9_make_115 fl_X9_45 sh_6 fr_6_4 F_6_4 ?_
              refine P_iload (pc := 118) dX9_make_118 rfl ?_
              refine P_aald (pc := 120) (c) dX9_make_120 sh_9 (by decide) rfl (by omega) (by decide) (Fr_9 _ (by omega)) ?_
              refine P_iload (pc := 121) dX9_make_121 rfl ?_
              refine P_iald (pc := 123) (n) (x := nI (nr (8 * c + n))) dX9_make_123 (shr_10 _ (by omega)) rfl (by omega) (by decide) (((hC.tf (by repeat (first | exact hF | refine zTf.u ?_ (by decide))) hs_5).2.2.1 _ _ hc hnok.1).trans (congrArg nI (zln_lt hnok.2))) ?_
              refine P_iaddN (pc := 124) dX9_make_124 ?_
              refine P_puti (pc := 125) 9 3 dX9_make_125 fl_X9_23 sh_67 fp_9_3 rfl rfl ?_
              refine P_aload_n (pc := 128) dX9_make_128 rfl ?_
              refine P_getr (pc := 129) 9 1 dX9_make_129 fl_X9_15 sh_67 fr_9_1 F_67_1 ?_
              refine P_iload (pc := 132) dX9_make_132 rfl ?_
              refine P_aload_n (pc := 134) dX9_make_134 rfl ?_
              refine P_getr (pc := 135) 8 0 dX9_make_135 fl_X9_32 sh_5 fr_8_0 F_5_0 ?_
              refine P_iload (pc := 138) dX9_make_138 rfl ?_
              refine P_iload (pc := 140) dX9_make_140 rfl ?_
              refine P_iload (pc := 142) dX9_make_142 rfl ?_
              have hC8 : CSt nc nr fr (zu J 67 3 (nI ((mi) + (nr (8 * c + n))))) 6 10 19 := hC.tf (by repeat (first | exact hF | refine zTf.u ?_ (by decide))) hs_5
              obtain ⟨_, _, _, k8, rfl, rfl, rfl⟩ := c_leadsOn_5 (l := l) (D := D) (tw := tw) hC8 (h := c) (n := n) (a := to) hc hnok.1 hto
              refine P_callV (pc := 144) (S := [_, _]) (As := [_, _, _]) k8 dX9_make_144 ok_X6_leadsOn ml_X9_51 iv_X6_leadsOn ⟨by decide, by decide⟩ (zret_b (zOnB nr fr c n to)) rfl ⟨rfl, by decide⟩ sh_6 ⟨by decide, rfl⟩ (Nat.le_of_ble_eq_true rfl) ?_
              refine P_sel1 (pc := 147) (zb (!zOnB nr fr c n to)) 155 (fun k155_147 => ?_) ?_
              · refine P_if_neB (pc := 147) (tgt := 154) dX9_make_147 (by decide) (fun h147 => ?_) (fun h147 => ?_)
                · refine P_iconst (pc := 154) (x := nI 0) dX9_make_154 (by decide) ?_
                  exact k155_147 _ (by rw [h147]; rfl)
                · refine P_iconst (pc := 150) (x := nI 1) dX9_make_150 (by decide) ?_
                  refine P_goto (pc := 151) (tgt := 155) dX9_make_151 (by decide) ?_
                  exact k155_147 _ (by rw [h147]; rfl)
              · refine P_zast (pc := 155) (st) dX9_make_155 sh_69 rfl (by omega) (by decide) ?_
                refine P_aload_n (pc := 156) dX9_make_156 rfl ?_
                refine P_getr (pc := 157) 9 1 dX9_make_157 fl_X9_15 sh_67 fr_9_1 F_67_1 ?_
                refine P_iload (pc := 160) dX9_make_160 rfl ?_
                refine P_zald (pc := 162) (st) (x := zb (!zOnB nr fr c n to)) dX9_make_162 sh_69 rfl (by omega) (by decide) ((zu_s _ _ _ _).trans (vpb _)) ?_
                refine P_if_eqB (pc := 163) (tgt := 205) dX9_make_163 (by decide) (fun h163 => ?_) (fun h163 => ?_)
                · refine P_iload (pc := 205) dX9_make_205 rfl ?_
                  refine P_istore (pc := 207) dX9_make_207 (by decide) rfl ?_
                  refine P_iload (pc := 209) dX9_make_209 rfl ?_
                  refine P_istore (pc := 211) dX9_make_211 (by decide) rfl ?_
                  refine P_aload_n (pc := 213) dX9_make_213 rfl ?_
                  refine P_iload (pc := 214) dX9_make_214 rfl ?_
                  refine P_iconst (pc := 216) (x := nI 1) dX9_make_216 (by decide) ?_
                  refine P_iaddN (pc := 217) dX9_make_217 ?_
                  refine P_puti (pc := 218) 9 2 dX9_make_218 fl_X9_19 sh_67 fp_9_2 rfl rfl ?_
                  refine P_aload_n (pc := 221) dX9_make_221 rfl ?_
                  refine P_getr (pc := 222) 9 0 dX9_make_222 fl_X9_9 sh_67 fr_9_0 F_67_0 ?_
                  refine P_aload_n (pc := 225) dX9_make_225 rfl ?_
                  refine P_geti (pc := 226) 9 2 (x := nI (st + 1)) dX9_make_226 fl_X9_19 sh_67 fi_9_2 (rfl) ?_
                  refine P_iload (pc := 229) dX9_make_229 rfl ?_
                  refine P_iast (pc := 231) ((st + 1)) dX9_make_231 sh_68 rfl (by omega) (by decide) ?_
                  refine P_iincN (pc := 232) (c := 1) dX9_make_232 rfl (by decide) (by decide) rfl ?_
                  refine P_goto (pc := 235) (tgt := 38) dX9_make_235 (by decide) ?_
                  have hon : zOnB nr fr c n to = true := znf h163
                  refine ih (st + 1) (mi + (nr (8 * c + n) + (if kd = 2 then 1 else 0))) (wr + (if zOnB nr fr c n to = true then 0 else 1)) (tx + (if kd = 2 then r2 else 0) + (if zOnB nr fr c n to = true then 0 else (r0 + (if some n = cm then r1 else 0)))) n (some c) (va_up be (st + 1) n) (va_up sy st (!zOnB nr fr c n to)) (some (.int (nI n))) _ (by omega) (by omega) (by repeat (first | exact hF | refine zTf.u ?_ (by decide))) rfl ?_ ?_ ?_ ?_ ?_ hnok.1 ?_ ?_
                  · refine Eq.trans (b := nI (mi + nr (8 * c + n))) rfl (congrArg nI ?_)
                    rw [if_neg h80]
                    omega
                  · refine Eq.trans (b := J 67 4) rfl (h4.trans (congrArg nI ?_))
                    rw [hon]; rfl
                  · refine Eq.trans (b := J 67 5) rfl (h5.trans (congrArg nI ?_))
                    rw [hon, if_neg h80]; rfl
                  · intro k hk
                    by_cases e : k = st + 1
                    · subst e
                      exact (zu_s _ _ _ _).trans (congrArg nI (va_up_s _ _ _).symm)
                    · rw [zu_n _ _ e, va_up_n _ _ e]
                      exact hbe k (by omega)
                  · intro k hk
                    refine Eq.trans (b := zu J 69 st (vp_nar .boolean (zb (!zOnB nr fr c n to))) 69 k) rfl ?_
                    by_cases e : k = st
                    · subst e
                      rw [zu_s, va_up_s, vpb]
                    · rw [zu_n _ _ e, va_up_n _ _ e]
                      exact hsy k (by omega)
                  · intro m hm
                    cases hm
                    exact ⟨hc, by rw [hsym n c hnok.1 hc]; exact hnok.2⟩
                  · rw [hf2]
                    exact hgo2
                · refine P_aload_n (pc := 166) dX9_make_166 rfl ?_
                  refine P_dup (pc := 167) dX9_make_167 rfl ?_
                  refine P_geti (pc := 168) 9 4 (x := nI (wr)) dX9_make_168 fl_X9_26 sh_67 fi_9_4 (h4) ?_
                  refine P_iconst (pc := 171) (x := nI 1) dX9_make_171 (by decide) ?_
                  refine P_iaddN (pc := 172) dX9_make_172 ?_
                  refine P_puti (pc := 173) 9 4 dX9_make_173 fl_X9_26 sh_67 fp_9_4 rfl rfl ?_
                  refine P_aload_n (pc := 176) dX9_make_176 rfl ?_
                  refine P_dup (pc := 177) dX9_make_177 rfl ?_
                  refine P_geti (pc := 178) 9 5 (x := nI (tx)) dX9_make_178 fl_X9_29 sh_67 fi_9_5 (h5) ?_
                  refine P_aload_n (pc := 181) dX9_make_181 rfl ?_
                  refine P_geti (pc := 182) 8 3 (x := nI (r0)) dX9_make_182 fl_X9_55 sh_5 fi_8_3 ((congrFun (hF 5 (by decide) (by decide) (by decide)) 3).trans hr.1) ?_
                  refine P_iload (pc := 185) dX9_make_185 rfl ?_
                  refine P_iload (pc := 187) dX9_make_187 rfl ?_
                  refine P_sel2 (pc := 189) (nI (if some n = cm then r1 else 0)) 200 (fun k200_189 => ?_) ?_
                  · refine P_icmp_ne (pc := 189) (tgt := 199) dX9_make_189 (by decide) (fun h189 => ?_) (fun h189 => ?_)
                    · refine P_iconst (pc := 199) (x := nI 0) dX9_make_199 (by decide) ?_
                      exact k200_189 _ (by first | rw [if_neg (fun z => h189 ((zo_eq1 (by omega) (fun m e => by have := hcm m e; omega)).mpr z))] | rw [if_pos ((zo_eq1 (by omega) (fun m e => by have := hcm m e; omega)).mp h189)] | rw [if_pos ((zo_eq1 (by omega) (fun m e => by have := hcm m e; omega)).mp (Classical.byContradiction h189))])
                    · refine P_aload_n (pc := 192) dX9_make_192 rfl ?_
                      refine P_geti (pc := 193) 8 4 (x := nI (r1)) dX9_make_193 fl_X9_58 sh_5 fi_8_4 ((congrFun (hF 5 (by decide) (by decide) (by decide)) 4).trans hr.2.1) ?_
                      refine P_goto (pc := 196) (tgt := 200) dX9_make_196 (by decide) ?_
                      exact k200_189 _ (by first | rw [if_neg (fun z => h189 ((zo_eq1 (by omega) (fun m e => by have := hcm m e; omega)).mpr z))] | rw [if_pos ((zo_eq1 (by omega) (fun m e => by have := hcm m e; omega)).mp h189)] | rw [if_pos ((zo_eq1 (by omega) (fun m e => by have := hcm m e; omega)).mp (Classical.byContradiction h189))])
                  · refine P_iaddN (pc := 200) dX9_make_200 ?_
                    refine P_iaddN (pc := 201) dX9_make_201 ?_
                    refine P_puti (pc := 202) 9 5 dX9_make_202 fl_X9_29 sh_67 fp_9_5 rfl rfl ?_
                    refine P_iload (pc := 205) dX9_make_205 rfl ?_
                    refine P_istore (pc := 207) dX9_make_207 (by decide) rfl ?_
                    refine P_iload (pc := 209) dX9_make_209 rfl ?_
                    refine P_istore (pc := 211) dX9_make_211 (by decide) rfl ?_
                    refine P_aload_n (pc := 213) dX9_make_213 rfl ?_
                    refine P_iload (pc := 214) dX9_make_214 rfl ?_
                    refine P_iconst (pc := 216) (x := nI 1) dX9_make_216 (by decide) ?_
                    refine P_iaddN (pc := 217) dX9_make_217 ?_
                    refine P_puti (pc := 218) 9 2 dX9_make_218 fl_X9_19 sh_67 fp_9_2 rfl rfl ?_
                    refine P_aload_n (pc := 221) dX9_make_221 rfl ?_
                    refine P_getr (pc := 222) 9 0 dX9_make_222 fl_X9_9 sh_67 fr_9_0 F_67_0 ?_
                    refine P_aload_n (pc := 225) dX9_make_225 rfl ?_
                    refine P_geti (pc := 226) 9 2 (x := nI (st + 1)) dX9_make_226 fl_X9_19 sh_67 fi_9_2 (rfl) ?_
                    refine P_iload (pc := 229) dX9_make_229 rfl ?_
                    refine P_iast (pc := 231) ((st + 1)) dX9_make_231 sh_68 rfl (by omega) (by decide) ?_
                    refine P_iincN (pc := 232) (c := 1) dX9_make_232 rfl (by decide) (by decide) rfl ?_
                    refine P_goto (pc := 235) (tgt := 38) dX9_make_235 (by decide) ?_
                    have hon : zOnB nr fr c n to = false := znt h163
                    refine ih (st + 1) (mi + (nr (8 * c + n) + (if kd = 2 then 1 else 0))) (wr + (if zOnB nr fr c n to = true then 0 else 1)) (tx + (if kd = 2 then r2 else 0) + (if zOnB nr fr c n to = true then 0 else (r0 + (if some n = cm then r1 else 0)))) n (some c) (va_up be (st + 1) n) (va_up sy st (!zOnB nr fr c n to)) (some (.int (nI n))) _ (by omega) (by omega) (by repeat (first | exact hF | refine zTf.u ?_ (by decide))) rfl ?_ ?_ ?_ ?_ ?_ hnok.1 ?_ ?_
                    · refine Eq.trans (b := nI (mi + nr (8 * c + n))) rfl (congrArg nI ?_)
                      rw [if_neg h80]
                      omega
                    · refine Eq.trans (b := nI (wr + 1)) rfl (congrArg nI ?_)
                      rw [hon]; rfl
                    · refine Eq.trans (b := nI (tx + (r0 + (if some n = cm then r1 else 0)))) rfl (congrArg nI ?_)
                      rw [hon, if_neg h80]; rfl
                    · intro k hk
                      by_cases e : k = st + 1
                      · subst e
                        exact (zu_s _ _ _ _).trans (congrArg nI (va_up_s _ _ _).symm)
                      · rw [zu_n _ _ e, va_up_n _ _ e]
                        exact hbe k (by omega)
                    · intro k hk
                      refine Eq.trans (b := zu J 69 st (vp_nar .boolean (zb (!zOnB nr fr c n to))) 69 k) rfl ?_
                      by_cases e : k = st
                      · subst e
                        rw [zu_s, va_up_s, vpb]
                      · rw [zu_n _ _ e, va_up_n _ _ e]
                        exact hsy k (by omega)
                    · intro m hm
                      cases hm
                      exact ⟨hc, by rw [hsym n c hnok.1 hc]; exact hnok.2⟩
                    · rw [hf2]
                      exact hgo2
            · refine P_aload_n (pc := 83) dX9_make_83 rfl ?_
              refine P_dup (pc := 84) dX9_make_84 rfl ?_
              refine P_geti (pc := 85) 9 3 (x := nI (mi)) dX9_make_85 fl_X9_23 sh_67 fi_9_3 (h3) ?_
              refine P_iconst (pc := 88) (x := nI 1) dX9_make_88 (by decide) ?_
              refine P_iaddN (pc := 89) dX9_make_89 ?_
              refine P_puti (pc := 90) 9 3 dX9_make_90 fl_X9_23 sh_67 fp_9_3 rfl rfl ?_
              refine P_aload_n (pc := 93) dX9_make_93 rfl ?_
              refine P_dup (pc := 94) dX9_make_94 rfl ?_
              refine P_geti (pc := 95) 9 5 (x := nI (tx)) dX9_make_95 fl_X9_29 sh_67 fi_9_5 (h5) ?_
              refine P_aload_n (pc := 98) dX9_make_98 rfl ?_
              refine P_geti (pc := 99) 8 5 (x := nI (r2)) dX9_make_99 fl_X9_42 sh_5 fi_8_5 ((congrFun (hF 5 (by decide) (by decide) (by decide)) 5).trans hr.2.2) ?_
              refine P_iaddN (pc := 102) dX9_make_102 ?_
              refine P_puti (pc := 103) 9 5 dX9_make_103 fl_X9_29 sh_67 fp_9_5 rfl rfl ?_
              refine P_aload_n (pc := 106) dX9_make_106 rfl ?_
              refine P_dup (pc := 107) dX9_make_107 rfl ?_
              refine P_geti (pc := 108) 9 3 (x := nI (mi + 1)) dX9_make_108 fl_X9_23 sh_67 fi_9_3 (rfl) ?_
              refine P_aload_n (pc := 111) dX9_make_111 rfl ?_
              refine P_getr (pc := 112) 8 0 dX9_make_112 fl_X9_32 sh_5 fr_8_0 F_5_0 ?_
              refine P_getr (pc := 115) 6 4 dX9_make_115 fl_X9_45 sh_6 fr_6_4 F_6_4 ?_
              refine P_iload (pc := 118) dX9_make_118 rfl ?_
              refine P_aald (pc := 120) (c) dX9_make_120 sh_9 (by decide) rfl (by omega) (by decide) (Fr_9 _ (by omega)) ?_
              refine P_iload (pc := 121) dX9_make_121 rfl ?_
              refine P_iald (pc := 123) (n) (x := nI (nr (8 * c + n))) dX9_make_123 (shr_10 _ (by omega)) rfl (by omega) (by decide) (((hC.tf (by repeat (first | exact hF | refine zTf.u ?_ (by decide))) hs_5).2.2.1 _ _ hc hnok.1).trans (congrArg nI (zln_lt hnok.2))) ?_
              refine P_iaddN (pc := 124) dX9_make_124 ?_
              refine P_puti (pc := 125) 9 3 dX9_make_125 fl_X9_23 sh_67 fp_9_3 rfl rfl ?_
              refine P_aload_n (pc := 128) dX9_make_128 rfl ?_
              refine P_getr (pc := 129) 9 1 dX9_make_129 fl_X9_15 sh_67 fr_9_1 F_67_1 ?_
              refine P_iload (pc := 132) dX9_make_132 rfl ?_
              refine P_aload_n (pc := 134) dX9_make_134 rfl ?_
              refine P_getr (pc := 135) 8 0 dX9_make_135 fl_X9_32 sh_5 fr_8_0 F_5_0 ?_
              refine P_iload (pc := 138) dX9_make_138 rfl ?_
              refine P_iload (pc := 140) dX9_make_140 rfl ?_
              refine P_iload (pc := 142) dX9_make_142 rfl ?_
              have hC8 : CSt nc nr fr (zu (zu (zu J 67 3 (nI ((mi) + 1))) 67 5 (nI ((tx) + (r2)))) 67 3 (nI ((mi + 1) + (nr (8 * c + n))))) 6 10 19 := hC.tf (by repeat (first | exact hF | refine zTf.u ?_ (by decide))) hs_5
              obtain ⟨_, _, _, k8, rfl, rfl, rfl⟩ := c_leadsOn_5 (l := l) (D := D) (tw := tw) hC8 (h := c) (n := n) (a := to) hc hnok.1 hto
              refine P_callV (pc := 144) (S := [_, _]) (As := [_, _, _]) k8 dX9_make_144 ok_X6_leadsOn ml_X9_51 iv_X6_leadsOn ⟨by decide, by decide⟩ (zret_b (zOnB nr fr c n to)) rfl ⟨rfl, by decide⟩ sh_6 ⟨by decide, rfl⟩ (Nat.le_of_ble_eq_true rfl) ?_
              refine P_sel1 (pc := 147) (zb (!zOnB nr fr c n to)) 155 (fun k155_147 => ?_) ?_
              · refine P_if_neB (pc := 147) (tgt := 154) dX9_make_147 (by decide) (fun h147 => ?_) (fun h147 => ?_)
                · refine P_iconst (pc := 154) (x := nI 0) dX9_make_154 (by decide) ?_
                  exact k155_147 _ (by rw [h147]; rfl)
                · refine P_iconst (pc := 150) (x := nI 1) dX9_make_150 (by decide) ?_
                  refine P_goto (pc := 151) (tgt := 155) dX9_make_151 (by decide) ?_
                  exact k155_147 _ (by rw [h147]; rfl)
              · refine P_zast (pc := 155) (st) dX9_make_155 sh_69 rfl (by omega) (by decide) ?_
                refine P_aload_n (pc := 156) dX9_make_156 rfl ?_
                refine P_getr (pc := 157) 9 1 dX9_make_157 fl_X9_15 sh_67 fr_9_1 F_67_1 ?_
                refine P_iload (pc := 160) dX9_make_160 rfl ?_
                refine P_zald (pc := 162) (st) (x := zb (!zOnB nr fr c n to)) dX9_make_162 sh_69 rfl (by omega) (by decide) ((zu_s _ _ _ _).trans (vpb _)) ?_
                refine P_if_eqB (pc := 163) (tgt := 205) dX9_make_163 (by decide) (fun h163 => ?_) (fun h163 => ?_)
                · refine P_iload (pc := 205) dX9_make_205 rfl ?_
                  refine P_istore (pc := 207) dX9_make_207 (by decide) rfl ?_
                  refine P_iload (pc := 209) dX9_make_209 rfl ?_
                  refine P_istore (pc := 211) dX9_make_211 (by decide) rfl ?_
                  refine P_aload_n (pc := 213) dX9_make_213 rfl ?_
                  refine P_iload (pc := 214) dX9_make_214 rfl ?_
                  refine P_iconst (pc := 216) (x := nI 1) dX9_make_216 (by decide) ?_
                  refine P_iaddN (pc := 217) dX9_make_217 ?_
                  refine P_puti (pc := 218) 9 2 dX9_make_218 fl_X9_19 sh_67 fp_9_2 rfl rfl ?_
                  refine P_aload_n (pc := 221) dX9_make_221 rfl ?_
                  refine P_getr (pc := 222) 9 0 dX9_make_222 fl_X9_9 sh_67 fr_9_0 F_67_0 ?_
                  refine P_aload_n (pc := 225) dX9_make_225 rfl ?_
                  refine P_geti (pc := 226) 9 2 (x := nI (st + 1)) dX9_make_226 fl_X9_19 sh_67 fi_9_2 (rfl) ?_
                  refine P_iload (pc := 229) dX9_make_229 rfl ?_
                  refine P_iast (pc := 231) ((st + 1)) dX9_make_231 sh_68 rfl (by omega) (by decide) ?_
                  refine P_iincN (pc := 232) (c := 1) dX9_make_232 rfl (by decide) (by decide) rfl ?_
                  refine P_goto (pc := 235) (tgt := 38) dX9_make_235 (by decide) ?_
                  have hon : zOnB nr fr c n to = true := znf h163
                  refine ih (st + 1) (mi + (nr (8 * c + n) + (if kd = 2 then 1 else 0))) (wr + (if zOnB nr fr c n to = true then 0 else 1)) (tx + (if kd = 2 then r2 else 0) + (if zOnB nr fr c n to = true then 0 else (r0 + (if some n = cm then r1 else 0)))) n (some c) (va_up be (st + 1) n) (va_up sy st (!zOnB nr fr c n to)) (some (.int (nI n))) _ (by omega) (by omega) (by repeat (first | exact hF | refine zTf.u ?_ (by decide))) rfl ?_ ?_ ?_ ?_ ?_ hnok.1 ?_ ?_
                  · refine Eq.trans (b := nI (mi + 1 + nr (8 * c + n))) rfl (congrArg nI ?_)
                    rw [if_pos h80]
                    omega
                  · refine Eq.trans (b := J 67 4) rfl (h4.trans (congrArg nI ?_))
                    rw [hon]; rfl
                  · refine Eq.trans (b := nI (tx + r2)) rfl (congrArg nI ?_)
                    rw [hon, if_pos h80]; rfl
                  · intro k hk
                    by_cases e : k = st + 1
                    · subst e
                      exact (zu_s _ _ _ _).trans (congrArg nI (va_up_s _ _ _).symm)
                    · rw [zu_n _ _ e, va_up_n _ _ e]
                      exact hbe k (by omega)
                  · intro k hk
                    refine Eq.trans (b := zu J 69 st (vp_nar .boolean (zb (!zOnB nr fr c n to))) 69 k) rfl ?_
                    by_cases e : k = st
                    · subst e
                      rw [zu_s, va_up_s, vpb]
                    · rw [zu_n _ _ e, va_up_n _ _ e]
                      exact hsy k (by omega)
                  · intro m hm
                    cases hm
                    exact ⟨hc, by rw [hsym n c hnok.1 hc]; exact hnok.2⟩
                  · rw [hf2]
                    exact hgo2
                · refine P_aload_n (pc := 166) dX9_make_166 rfl ?_
                  refine P_dup (pc := 167) dX9_make_167 rfl ?_
                  refine P_geti (pc := 168) 9 4 (x := nI (wr)) dX9_make_168 fl_X9_26 sh_67 fi_9_4 (h4) ?_
                  refine P_iconst (pc := 171) (x := nI 1) dX9_make_171 (by decide) ?_
                  refine P_iaddN (pc := 172) dX9_make_172 ?_
                  refine P_puti (pc := 173) 9 4 dX9_make_173 fl_X9_26 sh_67 fp_9_4 rfl rfl ?_
                  refine P_aload_n (pc := 176) dX9_make_176 rfl ?_
                  refine P_dup (pc := 177) dX9_make_177 rfl ?_
                  refine P_geti (pc := 178) 9 5 (x := nI (tx + r2)) dX9_make_178 fl_X9_29 sh_67 fi_9_5 (rfl) ?_
                  refine P_aload_n (pc := 181) dX9_make_181 rfl ?_
                  refine P_geti (pc := 182) 8 3 (x := nI (r0)) dX9_make_182 fl_X9_55 sh_5 fi_8_3 ((congrFun (hF 5 (by decide) (by decide) (by decide)) 3).trans hr.1) ?_
                  refine P_iload (pc := 185) dX9_make_185 rfl ?_
                  refine P_iload (pc := 187) dX9_make_187 rfl ?_
                  refine P_sel2 (pc := 189) (nI (if some n = cm then r1 else 0)) 200 (fun k200_189 => ?_) ?_
                  · refine P_icmp_ne (pc := 189) (tgt := 199) dX9_make_189 (by decide) (fun h189 => ?_) (fun h189 => ?_)
                    · refine P_iconst (pc := 199) (x := nI 0) dX9_make_199 (by decide) ?_
                      exact k200_189 _ (by first | rw [if_neg (fun z => h189 ((zo_eq1 (by omega) (fun m e => by have := hcm m e; omega)).mpr z))] | rw [if_pos ((zo_eq1 (by omega) (fun m e => by have := hcm m e; omega)).mp h189)] | rw [if_pos ((zo_eq1 (by omega) (fun m e => by have := hcm m e; omega)).mp (Classical.byContradiction h189))])
                    · refine P_aload_n (pc := 192) dX9_make_192 rfl ?_
                      refine P_geti (pc := 193) 8 4 (x := nI (r1)) dX9_make_193 fl_X9_58 sh_5 fi_8_4 ((congrFun (hF 5 (by decide) (by decide) (by decide)) 4).trans hr.2.1) ?_
                      refine P_goto (pc := 196) (tgt := 200) dX9_make_196 (by decide) ?_
                      exact k200_189 _ (by first | rw [if_neg (fun z => h189 ((zo_eq1 (by omega) (fun m e => by have := hcm m e; omega)).mpr z))] | rw [if_pos ((zo_eq1 (by omega) (fun m e => by have := hcm m e; omega)).mp h189)] | rw [if_pos ((zo_eq1 (by omega) (fun m e => by have := hcm m e; omega)).mp (Classical.byContradiction h189))])
                  · refine P_iaddN (pc := 200) dX9_make_200 ?_
                    refine P_iaddN (pc := 201) dX9_make_201 ?_
                    refine P_puti (pc := 202) 9 5 dX9_make_202 fl_X9_29 sh_67 fp_9_5 rfl rfl ?_
                    refine P_iload (pc := 205) dX9_make_205 rfl ?_
                    refine P_istore (pc := 207) dX9_make_207 (by decide) rfl ?_
                    refine P_iload (pc := 209) dX9_make_209 rfl ?_
                    refine P_istore (pc := 211) dX9_make_211 (by decide) rfl ?_
                    refine P_aload_n (pc := 213) dX9_make_213 rfl ?_
                    refine P_iload (pc := 214) dX9_make_214 rfl ?_
                    refine P_iconst (pc := 216) (x := nI 1) dX9_make_216 (by decide) ?_
                    refine P_iaddN (pc := 217) dX9_make_217 ?_
                    refine P_puti (pc := 218) 9 2 dX9_make_218 fl_X9_19 sh_67 fp_9_2 rfl rfl ?_
                    refine P_aload_n (pc := 221) dX9_make_221 rfl ?_
                    refine P_getr (pc := 222) 9 0 dX9_make_222 fl_X9_9 sh_67 fr_9_0 F_67_0 ?_
                    refine P_aload_n (pc := 225) dX9_make_225 rfl ?_
                    refine P_geti (pc := 226) 9 2 (x := nI (st + 1)) dX9_make_226 fl_X9_19 sh_67 fi_9_2 (rfl) ?_
                    refine P_iload (pc := 229) dX9_make_229 rfl ?_
                    refine P_iast (pc := 231) ((st + 1)) dX9_make_231 sh_68 rfl (by omega) (by decide) ?_
                    refine P_iincN (pc := 232) (c := 1) dX9_make_232 rfl (by decide) (by decide) rfl ?_
                    refine P_goto (pc := 235) (tgt := 38) dX9_make_235 (by decide) ?_
                    have hon : zOnB nr fr c n to = false := znt h163
                    refine ih (st + 1) (mi + (nr (8 * c + n) + (if kd = 2 then 1 else 0))) (wr + (if zOnB nr fr c n to = true then 0 else 1)) (tx + (if kd = 2 then r2 else 0) + (if zOnB nr fr c n to = true then 0 else (r0 + (if some n = cm then r1 else 0)))) n (some c) (va_up be (st + 1) n) (va_up sy st (!zOnB nr fr c n to)) (some (.int (nI n))) _ (by omega) (by omega) (by repeat (first | exact hF | refine zTf.u ?_ (by decide))) rfl ?_ ?_ ?_ ?_ ?_ hnok.1 ?_ ?_
                    · refine Eq.trans (b := nI (mi + 1 + nr (8 * c + n))) rfl (congrArg nI ?_)
                      rw [if_pos h80]
                      omega
                    · refine Eq.trans (b := nI (wr + 1)) rfl (congrArg nI ?_)
                      rw [hon]; rfl
                    · refine Eq.trans (b := nI (tx + r2 + (r0 + (if some n = cm then r1 else 0)))) rfl (congrArg nI ?_)
                      rw [hon, if_pos h80]; rfl
                    · intro k hk
                      by_cases e : k = st + 1
                      · subst e
                        exact (zu_s _ _ _ _).trans (congrArg nI (va_up_s _ _ _).symm)
                      · rw [zu_n _ _ e, va_up_n _ _ e]
                        exact hbe k (by omega)
                    · intro k hk
                      refine Eq.trans (b := zu J 69 st (vp_nar .boolean (zb (!zOnB nr fr c n to))) 69 k) rfl ?_
                      by_cases e : k = st
                      · subst e
                        rw [zu_s, va_up_s, vpb]
                      · rw [zu_n _ _ e, va_up_n _ _ e]
                        exact hsy k (by omega)
                    · intro m hm
                      cases hm
                      exact ⟨hc, by rw [hsym n c hnok.1 hc]; exact hnok.2⟩
                    · rw [hf2]
                      exact hgo2
  show ZP _ _ _ _ [some _, some _, some _, some _, some _, some _, some _, none, none, none, none] _ _ _ _
  refine P_aload_n (pc := 0) dX9_make_0 rfl ?_
  refine P_iconst (pc := 1) (x := nI 0) dX9_make_1 (by decide) ?_
  refine P_puti (pc := 2) 9 2 dX9_make_2 fl_X9_19 sh_67 fp_9_2 rfl rfl ?_
  refine P_aload_n (pc := 5) dX9_make_5 rfl ?_
  refine P_iconst (pc := 6) (x := nI 0) dX9_make_6 (by decide) ?_
  refine P_puti (pc := 7) 9 3 dX9_make_7 fl_X9_23 sh_67 fp_9_3 rfl rfl ?_
  refine P_aload_n (pc := 10) dX9_make_10 rfl ?_
  refine P_iconst (pc := 11) (x := nI 0) dX9_make_11 (by decide) ?_
  refine P_puti (pc := 12) 9 4 dX9_make_12 fl_X9_26 sh_67 fp_9_4 rfl rfl ?_
  refine P_aload_n (pc := 15) dX9_make_15 rfl ?_
  refine P_iconst (pc := 16) (x := nI 0) dX9_make_16 (by decide) ?_
  refine P_puti (pc := 17) 9 5 dX9_make_17 fl_X9_29 sh_67 fp_9_5 rfl rfl ?_
  refine P_aload_n (pc := 20) dX9_make_20 rfl ?_
  refine P_getr (pc := 21) 9 0 dX9_make_21 fl_X9_9 sh_67 fr_9_0 F_67_0 ?_
  refine P_iconst (pc := 24) (x := nI 0) dX9_make_24 (by decide) ?_
  refine P_iload (pc := 25) dX9_make_25 rfl ?_
  refine P_iast (pc := 27) (0) dX9_make_27 sh_68 rfl (by omega) (by decide) ?_
  refine P_iconst (pc := 28) (x := (-1)) dX9_make_28 (by decide) ?_
  refine P_istore (pc := 29) dX9_make_29 (by decide) rfl ?_
  refine P_iload (pc := 31) dX9_make_31 rfl ?_
  refine P_istore (pc := 33) dX9_make_33 (by decide) rfl ?_
  refine P_iconst (pc := 35) (x := nI 0) dX9_make_35 (by decide) ?_
  refine P_istore (pc := 36) dX9_make_36 (by decide) rfl ?_
  refine loop 32 0 0 0 0 fm none (fun _ => fm) (fun _ => false) none _ (by omega) (by omega) (((((zTf.rf.u (by decide)).u (by decide)).u (by decide)).u (by decide)).u (by decide)) rfl rfl rfl rfl ?_ ?_ hfm ?_ rfl
  · intro k hk
    have : k = 0 := by omega
    subst this
    rfl
  · intro k hk
    omega
  · intro m hm
    cases hm
set_option maxRecDepth 20000 in
theorem c_make_36_58 {l : Launch} {D : va_G} {tw : Nat} {I : AI} {nc : Nat} {nr fr : Nat → Nat} (hC : CSt nc nr fr I 37 41 50) {m : Nat} {gc gt gn : Nat → Nat} (hS : CSg m gc gt gn I 58) {r0 r1 r2 : Nat} (hr : I 36 3 = nI r0 ∧ I 36 4 = nI r1 ∧ I 36 5 = nI r2) {kd fm a to : Nat} (hn1 : 1 ≤ nc) (hsym : ∀ a b, a < 8 → b < 8 → nr (8 * a + b) = nr (8 * b + a)) (hkd : kd < 4) (hfm : fm < 8) (ha : a < 8) (hto : to < 8) : ZP l D zm_X9_make 0 (zent 11 [.ref 67, .ref 36, .ref 58, .int (nI kd), .int (nI fm), .int (nI a), .int (nI to)]) [] I (zF tw) (fun v J G => v = none ∧ G = zF tw ∧ zMk (zTrip (zNx nc nr fr (fun c => zSign gc gt gn c a m) kd a) (fun c n => zOnB nr fr c n to) nr kd r0 r1 r2 a fm) a I J) := by
  have fin : ∀ (st mi wr tx c : Nat) (cm : Option Nat) (be : Nat → Nat) (sy : Nat → Bool) (v10 : Option Value) (J : AI), zTf I J → J 67 2 = nI st → J 67 3 = nI mi → J 67 4 = nI wr → J 67 5 = nI tx → (∀ k, k ≤ st → J 68 k = nI (be k)) → (∀ k, k < st → J 69 k = zb (sy k)) → c < 8 → (st, mi, wr, tx, c, cm, be, sy) = zTrip (zNx nc nr fr (fun c => zSign gc gt gn c a m) kd a) (fun c n => zOnB nr fr c n to) nr kd r0 r1 r2 a fm → ZP l D zm_X9_make 238 [some (.ref 67), some (.ref 36), some (.ref 58), some (.int (nI kd)), some (.int (nI fm)), some (.int (nI a)), some (.int (nI to)), some (.int (zo (-1) cm)), some (.int (nI c)), some (.int (nI st)), v10] [] J (zF tw) (fun v J G => v = none ∧ G = zF tw ∧ zMk (zTrip (zNx nc nr fr (fun c => zSign gc gt gn c a m) kd a) (fun c n => zOnB nr fr c n to) nr kd r0 r1 r2 a fm) a I J) := by
    intro st mi wr tx c cm be sy v10 J hF h2 h3 h4 h5 hbe hsy hc hgo
    refine P_aload_n (pc := 238) dX9_make_238 rfl ?_
    refine P_iload (pc := 239) dX9_make_239 rfl ?_
    refine P_iload (pc := 241) dX9_make_241 rfl ?_
    refine P_sel2 (pc := 243) (zb (decide (c = a))) 251 (fun k251_243 => ?_) ?_
    · refine P_icmp_neN (pc := 243) (tgt := 250) dX9_make_243 (by decide) (by omega) (by omega) (fun h243 => ?_) (fun h243 => ?_)
      · refine P_iconst (pc := 250) (x := nI 0) dX9_make_250 (by decide) ?_
        exact k251_243 _ (by first | rw [decide_eq_false (by omega)]; rfl | rw [decide_eq_true (by omega)]; rfl)
      · refine P_iconst (pc := 246) (x := nI 1) dX9_make_246 (by decide) ?_
        refine P_goto (pc := 247) (tgt := 251) dX9_make_247 (by decide) ?_
        exact k251_243 _ (by first | rw [decide_eq_false (by omega)]; rfl | rw [decide_eq_true (by omega)]; rfl)
    · refine P_puti (pc := 251) 9 6 dX9_make_251 fl_X9_61 sh_67 fp_9_6 (by cases (decide (c = a)) <;> rfl) (by cases (decide (c = a)) <;> rfl) ?_
      refine P_ret (pc := 254) dX9_make_254 ?_
      rw [← hgo]
      exact ⟨rfl, rfl, hF.u (by decide), h2, h3, h4, h5, rfl, hbe, hsy⟩
  have loop : ∀ (d st mi wr tx c : Nat) (cm : Option Nat) (be : Nat → Nat) (sy : Nat → Bool) (v10 : Option Value) (J : AI), 31 - st < d → st ≤ 30 → zTf I J → J 67 2 = nI st → J 67 3 = nI mi → J 67 4 = nI wr → J 67 5 = nI tx → (∀ k, k ≤ st → J 68 k = nI (be k)) → (∀ k, k < st → J 69 k = zb (sy k)) → c < 8 → (∀ m, cm = some m → m < 8 ∧ nr (8 * c + m) < 10000) → zGo (zNx nc nr fr (fun c => zSign gc gt gn c a m) kd a) (fun c n => zOnB nr fr c n to) nr kd r0 r1 r2 a (30 - st) st mi wr tx c cm be sy = zTrip (zNx nc nr fr (fun c => zSign gc gt gn c a m) kd a) (fun c n => zOnB nr fr c n to) nr kd r0 r1 r2 a fm → ZP l D zm_X9_make 38 [some (.ref 67), some (.ref 36), some (.ref 58), some (.int (nI kd)), some (.int (nI fm)), some (.int (nI a)), some (.int (nI to)), some (.int (zo (-1) cm)), some (.int (nI c)), some (.int (nI st)), v10] [] J (zF tw) (fun v J G => v = none ∧ G = zF tw ∧ zMk (zTrip (zNx nc nr fr (fun c => zSign gc gt gn c a m) kd a) (fun c n => zOnB nr fr c n to) nr kd r0 r1 r2 a fm) a I J) := by
    intro d
    induction d with
    | zero =>
      intro st mi wr tx c cm be sy v10 J hd
      exact absurd hd (by omega)
    | succ d ih =>
      intro st mi wr tx c cm be sy v10 J hd hst30 hF h2 h3 h4 h5 hbe hsy hc hcm hgo
      refine P_iload (pc := 38) dX9_make_38 rfl ?_
      refine P_bipush (pc := 40) (x := nI 30) dX9_make_40 (by decide) ?_
      refine P_icmp_geN (pc := 42) (tgt := 238) dX9_make_42 (by decide) (by omega) (by omega) (fun h42 => ?_) (fun h42 => ?_)
      · exact fin st mi wr tx c cm be sy _ J hF h2 h3 h4 h5 hbe hsy hc (by rw [show 30 - st = 0 by omega] at hgo; exact hgo)
      · refine P_iload (pc := 45) dX9_make_45 rfl ?_
        refine P_iload (pc := 47) dX9_make_47 rfl ?_
        refine P_icmp_eqN (pc := 49) (tgt := 238) dX9_make_49 (by decide) (by omega) (by omega) (fun h49 => ?_) (fun h49 => ?_)
        · exact fin st mi wr tx c cm be sy _ J hF h2 h3 h4 h5 hbe hsy hc (by rw [zGo_aim (by omega)] at hgo; exact hgo)
        · refine P_aload_n (pc := 52) dX9_make_52 rfl ?_
          refine P_getr (pc := 53) 8 0 dX9_make_53 fl_X9_32 sh_36 fr_8_0 F_36_0 ?_
          refine P_aload_n (pc := 56) dX9_make_56 rfl ?_
          refine P_iload_n (pc := 57) dX9_make_57 rfl ?_
          refine P_iload (pc := 58) dX9_make_58 rfl ?_
          refine P_iload (pc := 60) dX9_make_60 rfl ?_
          refine P_iload (pc := 62) dX9_make_62 rfl ?_
          obtain ⟨_, _, _, k9, rfl, rfl, rfl⟩ := c_choose_36_58 (l := l) (D := D) (tw := tw) (hC.tf hF hs_36) (hS.tf hF hg_58) (kd := kd) (h := c) (a := a) (cm := cm) hn1 hkd hc ha (fun m e => (hcm m e).1)
          refine P_callS (pc := 64) (S := []) (As := [_, _, _, _, _, _]) k9 dX9_make_64 ok_X9_choose ml_X9_38 is_X9_choose ⟨by decide, by decide⟩ (zret_i _) rfl ⟨rfl, by decide⟩ (Nat.le_of_ble_eq_true rfl) ?_
          rcases hx : zNx nc nr fr (fun c => zSign gc gt gn c a m) kd a c cm with _ | n
          · have hgo2 := hgo
            rw [zGo_none hx] at hgo2
            refine P_istore (pc := 67) dX9_make_67 (by decide) rfl ?_
            refine P_iload (pc := 69) dX9_make_69 rfl ?_
            refine P_iconst (pc := 71) (x := (-1)) dX9_make_71 (by decide) ?_
            refine P_icmp_neF (pc := 72) (tgt := 78) dX9_make_72 (by decide) (by decide) ?_
            refine P_goto (pc := 75) (tgt := 238) dX9_make_75 (by decide) ?_
            exact fin st mi wr tx c cm be sy _ J hF h2 h3 h4 h5 hbe hsy hc hgo2
          · have hnok := zNx_ok hC.2.1 hcm (fun p e => zSign_lt (b := 8) (fun j hj => (hS.2.2 j hj).2.2.2) e) hx
            have hst : ∃ f, 30 - st = f + 1 ∧ 30 - (st + 1) = f := ⟨30 - st - 1, by omega, by omega⟩
            obtain ⟨f, hf1, hf2⟩ := hst
            have hgo2 := hgo
            rw [hf1, zGo_some (by omega) hx] at hgo2
            refine P_istore (pc := 67) dX9_make_67 (by decide) rfl ?_
            refine P_iload (pc := 69) dX9_make_69 rfl ?_
            refine P_iconst (pc := 71) (x := (-1)) dX9_make_71 (by decide) ?_
            refine P_icmp_neT (pc := 72) (tgt := 78) dX9_make_72 (by decide) (zne1 (by omega)) ?_
            refine P_iload_n (pc := 78) dX9_make_78 rfl ?_
            refine P_iconst (pc := 79) (x := nI 2) dX9_make_79 (by decide) ?_
            refine P_icmp_neN (pc := 80) (tgt := 106) dX9_make_80 (by decide) (by omega) (by omega) (fun h80 => ?_) (fun h80 => ?_)
            · refine P_aload_n (pc := 106) dX9_make_106 rfl ?_
              refine P_dup (pc := 107) dX9_make_107 rfl ?_
              refine P_geti (pc := 108) 9 3 (x := nI (mi)) dX9_make_108 fl_X9_23 sh_67 fi_9_3 (h3) ?_
              refine P_aload_n (pc := 111) dX9_make_111 rfl ?_
              refine P_getr (pc := 112) 8 0 dX9_make_112 fl_X9_32 sh_36 fr_8_0 F_36_0 ?_
              refine P_getr (pc := 115) 6 4 dX9_make_115 fl_X9_45 sh_37 fr_6_4 F_37_4 ?_
              refine P_iload (pc := 118) dX9_make_118 rfl ?_
              refine P_aald (pc := 120) (c) dX9_make_120 sh_40 (by decide) rfl (by omega) (by decide) (Fr_40 _ (by omega)) ?_
              refine P_iload (pc := 121) dX9_make_121 rfl ?_
              refine P_iald (pc := 123) (n) (x := nI (nr (8 * c + n))) dX9_make_123 (shr_41 _ (by omega)) rfl (by omega) (by decide) (((hC.tf (by repeat (first | exact hF | refine zTf.u ?_ (by decide))) hs_36).2.2.1 _ _ hc hnok.1).trans (congrArg nI (zln_lt hnok.2))) ?_
              refine P_iaddN (pc := 124) dX9_make_124 ?_
              refine P_puti (pc := 125) 9 3 dX9_make_125 fl_X9_23 sh_67 fp_9_3 rfl rfl ?_
              refine P_aload_n (pc := 128) dX9_make_128 rfl ?_
              refine P_getr (pc := 129) 9 1 dX9_make_129 fl_X9_15 sh_67 fr_9_1 F_67_1 ?_
              refine P_iload (pc := 132) dX9_make_132 rfl ?_
              refine P_aload_n (pc := 134) dX9_make_134 rfl ?_
              refine P_getr (pc := 135) 8 0 dX9_make_135 fl_X9_32 sh_36 fr_8_0 F_36_0 ?_
              refine P_iload (pc := 138) dX9_make_138 rfl ?_
              refine P_iload (pc := 140) dX9_make_140 rfl ?_
              refine P_iload (pc := 142) dX9_make_142 rfl ?_
              have hC8 : CSt nc nr fr (zu J 67 3 (nI ((mi) + (nr (8 * c + n))))) 37 41 50 := hC.tf (by repeat (first | exact hF | refine zTf.u ?_ (by decide))) hs_36
              obtain ⟨_, _, _, k8, rfl, rfl, rfl⟩ := c_leadsOn_36 (l := l) (D := D) (tw := tw) hC8 (h := c) (n := n) (a := to) hc hnok.1 hto
              refine P_callV (pc := 144) (S := [_, _]) (As := [_, _, _]) k8 dX9_make_144 ok_X6_leadsOn ml_X9_51 iv_X6_leadsOn ⟨by decide, by decide⟩ (zret_b (zOnB nr fr c n to)) rfl ⟨rfl, by decide⟩ sh_37 ⟨by decide, rfl⟩ (Nat.le_of_ble_eq_true rfl) ?_
              refine P_sel1 (pc := 147) (zb (!zOnB nr fr c n to)) 155 (fun k155_147 => ?_) ?_
              · refine P_if_neB (pc := 147) (tgt := 154) dX9_make_147 (by decide) (fun h147 => ?_) (fun h147 => ?_)
                · refine P_iconst (pc := 154) (x := nI 0) dX9_make_154 (by decide) ?_
                  exact k155_147 _ (by rw [h147]; rfl)
                · refine P_iconst (pc := 150) (x := nI 1) dX9_make_150 (by decide) ?_
                  refine P_goto (pc := 151) (tgt := 155) dX9_make_151 (by decide) ?_
                  exact k155_147 _ (by rw [h147]; rfl)
              · refine P_zast (pc := 155) (st) dX9_make_155 sh_69 rfl (by omega) (by decide) ?_
                refine P_aload_n (pc := 156) dX9_make_156 rfl ?_
                refine P_getr (pc := 157) 9 1 dX9_make_157 fl_X9_15 sh_67 fr_9_1 F_67_1 ?_
                refine P_iload (pc := 160) dX9_make_160 rfl ?_
                refine P_zald (pc := 162) (st) (x := zb (!zOnB nr fr c n to)) dX9_make_162 sh_69 rfl (by omega) (by decide) ((zu_s _ _ _ _).trans (vpb _)) ?_
                refine P_if_eqB (pc := 163) (tgt := 205) dX9_make_163 (by decide) (fun h163 => ?_) (fun h163 => ?_)
                · refine P_iload (pc := 205) dX9_make_205 rfl ?_
                  refine P_istore (pc := 207) dX9_make_207 (by decide) rfl ?_
                  refine P_iload (pc := 209) dX9_make_209 rfl ?_
                  refine P_istore (pc := 211) dX9_make_211 (by decide) rfl ?_
                  refine P_aload_n (pc := 213) dX9_make_213 rfl ?_
                  refine P_iload (pc := 214) dX9_make_214 rfl ?_
                  refine P_iconst (pc := 216) (x := nI 1) dX9_make_216 (by decide) ?_
                  refine P_iaddN (pc := 217) dX9_make_217 ?_
                  refine P_puti (pc := 218) 9 2 dX9_make_218 fl_X9_19 sh_67 fp_9_2 rfl rfl ?_
                  refine P_aload_n (pc := 221) dX9_make_221 rfl ?_
                  refine P_getr (pc := 222) 9 0 dX9_make_222 fl_X9_9 sh_67 fr_9_0 F_67_0 ?_
                  refine P_aload_n (pc := 225) dX9_make_225 rfl ?_
                  refine P_geti (pc := 226) 9 2 (x := nI (st + 1)) dX9_make_226 fl_X9_19 sh_67 fi_9_2 (rfl) ?_
                  refine P_iload (pc := 229) dX9_make_229 rfl ?_
                  refine P_iast (pc := 231) ((st + 1)) dX9_make_231 sh_68 rfl (by omega) (by decide) ?_
                  refine P_iincN (pc := 232) (c := 1) dX9_make_232 rfl (by decide) (by decide) rfl ?_
                  refine P_goto (pc := 235) (tgt := 38) dX9_make_235 (by decide) ?_
                  have hon : zOnB nr fr c n to = true := znf h163
                  refine ih (st + 1) (mi + (nr (8 * c + n) + (if kd = 2 then 1 else 0))) (wr + (if zOnB nr fr c n to = true then 0 else 1)) (tx + (if kd = 2 then r2 else 0) + (if zOnB nr fr c n to = true then 0 else (r0 + (if some n = cm then r1 else 0)))) n (some c) (va_up be (st + 1) n) (va_up sy st (!zOnB nr fr c n to)) (some (.int (nI n))) _ (by omega) (by omega) (by repeat (first | exact hF | refine zTf.u ?_ (by decide))) rfl ?_ ?_ ?_ ?_ ?_ hnok.1 ?_ ?_
                  · refine Eq.trans (b := nI (mi + nr (8 * c + n))) rfl (congrArg nI ?_)
                    rw [if_neg h80]
                    omega
                  · refine Eq.trans (b := J 67 4) rfl (h4.trans (congrArg nI ?_))
                    rw [hon]; rfl
                  · refine Eq.trans (b := J 67 5) rfl (h5.trans (congrArg nI ?_))
                    rw [hon, if_neg h80]; rfl
                  · intro k hk
                    by_cases e : k = st + 1
                    · subst e
                      exact (zu_s _ _ _ _).trans (congrArg nI (va_up_s _ _ _).symm)
                    · rw [zu_n _ _ e, va_up_n _ _ e]
                      exact hbe k (by omega)
                  · intro k hk
                    refine Eq.trans (b := zu J 69 st (vp_nar .boolean (zb (!zOnB nr fr c n to))) 69 k) rfl ?_
                    by_cases e : k = st
                    · subst e
                      rw [zu_s, va_up_s, vpb]
                    · rw [zu_n _ _ e, va_up_n _ _ e]
                      exact hsy k (by omega)
                  · intro m hm
                    cases hm
                    exact ⟨hc, by rw [hsym n c hnok.1 hc]; exact hnok.2⟩
                  · rw [hf2]
                    exact hgo2
                · refine P_aload_n (pc := 166) dX9_make_166 rfl ?_
                  refine P_dup (pc := 167) dX9_make_167 rfl ?_
                  refine P_geti (pc := 168) 9 4 (x := nI (wr)) dX9_make_168 fl_X9_26 sh_67 fi_9_4 (h4) ?_
                  refine P_iconst (pc := 171) (x := nI 1) dX9_make_171 (by decide) ?_
                  refine P_iaddN (pc := 172) dX9_make_172 ?_
                  refine P_puti (pc := 173) 9 4 dX9_make_173 fl_X9_26 sh_67 fp_9_4 rfl rfl ?_
                  refine P_aload_n (pc := 176) dX9_make_176 rfl ?_
                  refine P_dup (pc := 177) dX9_make_177 rfl ?_
                  refine P_geti (pc := 178) 9 5 (x := nI (tx)) dX9_make_178 fl_X9_29 sh_67 fi_9_5 (h5) ?_
                  refine P_aload_n (pc := 181) dX9_make_181 rfl ?_
                  refine P_geti (pc := 182) 8 3 (x := nI (r0)) dX9_make_182 fl_X9_55 sh_36 fi_8_3 ((congrFun (hF 36 (by decide) (by decide) (by decide)) 3).trans hr.1) ?_
                  refine P_iload (pc := 185) dX9_make_185 rfl ?_
                  refine P_iload (pc := 187) dX9_make_187 rfl ?_
                  refine P_sel2 (pc := 189) (nI (if some n = cm then r1 else 0)) 200 (fun k200_189 => ?_) ?_
                  · refine P_icmp_ne (pc := 189) (tgt := 199) dX9_make_189 (by decide) (fun h189 => ?_) (fun h189 => ?_)
                    · refine P_iconst (pc := 199) (x := nI 0) dX9_make_199 (by decide) ?_
                      exact k200_189 _ (by first | rw [if_neg (fun z => h189 ((zo_eq1 (by omega) (fun m e => by have := hcm m e; omega)).mpr z))] | rw [if_pos ((zo_eq1 (by omega) (fun m e => by have := hcm m e; omega)).mp h189)] | rw [if_pos ((zo_eq1 (by omega) (fun m e => by have := hcm m e; omega)).mp (Classical.byContradiction h189))])
                    · refine P_aload_n (pc := 192) dX9_make_192 rfl ?_
                      refine P_geti (pc := 193) 8 4 (x := nI (r1)) dX9_make_193 fl_X9_58 sh_36 fi_8_4 ((congrFun (hF 36 (by decide) (by decide) (by decide)) 4).trans hr.2.1) ?_
                      refine P_goto (pc := 196) (tgt := 200) dX9_make_196 (by decide) ?_
                      exact k200_189 _ (by first | rw [if_neg (fun z => h189 ((zo_eq1 (by omega) (fun m e => by have := hcm m e; omega)).mpr z))] | rw [if_pos ((zo_eq1 (by omega) (fun m e => by have := hcm m e; omega)).mp h189)] | rw [if_pos ((zo_eq1 (by omega) (fun m e => by have := hcm m e; omega)).mp (Classical.byContradiction h189))])
                  · refine P_iaddN (pc := 200) dX9_make_200 ?_
                    refine P_iaddN (pc := 201) dX9_make_201 ?_
                    refine P_puti (pc := 202) 9 5 dX9_make_202 fl_X9_29 sh_67 fp_9_5 rfl rfl ?_
                    refine P_iload (pc := 205) dX9_make_205 rfl ?_
                    refine P_istore (pc := 207) dX9_make_207 (by decide) rfl ?_
                    refine P_iload (pc := 209) dX9_make_209 rfl ?_
                    refine P_istore (pc := 211) dX9_make_211 (by decide) rfl ?_
                    refine P_aload_n (pc := 213) dX9_make_213 rfl ?_
                    refine P_iload (pc := 214) dX9_make_214 rfl ?_
                    refine P_iconst (pc := 216) (x := nI 1) dX9_make_216 (by decide) ?_
                    refine P_iaddN (pc := 217) dX9_make_217 ?_
                    refine P_puti (pc := 218) 9 2 dX9_make_218 fl_X9_19 sh_67 fp_9_2 rfl rfl ?_
                    refine P_aload_n (pc := 221) dX9_make_221 rfl ?_
                    refine P_getr (pc := 222) 9 0 dX9_make_222 fl_X9_9 sh_67 fr_9_0 F_67_0 ?_
                    refine P_aload_n (pc := 225) dX9_make_225 rfl ?_
                    refine P_geti (pc := 226) 9 2 (x := nI (st + 1)) dX9_make_226 fl_X9_19 sh_67 fi_9_2 (rfl) ?_
                    refine P_iload (pc := 229) dX9_make_229 rfl ?_
                    refine P_iast (pc := 231) ((st + 1)) dX9_make_231 sh_68 rfl (by omega) (by decide) ?_
                    refine P_iincN (pc := 232) (c := 1) dX9_make_232 rfl (by decide) (by decide) rfl ?_
                    refine P_goto (pc := 235) (tgt := 38) dX9_make_235 (by decide) ?_
                    have hon : zOnB nr fr c n to = false := znt h163
                    refine ih (st + 1) (mi + (nr (8 * c + n) + (if kd = 2 then 1 else 0))) (wr + (if zOnB nr fr c n to = true then 0 else 1)) (tx + (if kd = 2 then r2 else 0) + (if zOnB nr fr c n to = true then 0 else (r0 + (if some n = cm then r1 else 0)))) n (some c) (va_up be (st + 1) n) (va_up sy st (!zOnB nr fr c n to)) (some (.int (nI n))) _ (by omega) (by omega) (by repeat (first | exact hF | refine zTf.u ?_ (by decide))) rfl ?_ ?_ ?_ ?_ ?_ hnok.1 ?_ ?_
                    · refine Eq.trans (b := nI (mi + nr (8 * c + n))) rfl (congrArg nI ?_)
                      rw [if_neg h80]
                      omega
                    · refine Eq.trans (b := nI (wr + 1)) rfl (congrArg nI ?_)
                      rw [hon]; rfl
                    · refine Eq.trans (b := nI (tx + (r0 + (if some n = cm then r1 else 0)))) rfl (congrArg nI ?_)
                      rw [hon, if_neg h80]; rfl
                    · intro k hk
                      by_cases e : k = st + 1
                      · subst e
                        exact (zu_s _ _ _ _).trans (congrArg nI (va_up_s _ _ _).symm)
                      · rw [zu_n _ _ e, va_up_n _ _ e]
                        exact hbe k (by omega)
                    · intro k hk
                      refine Eq.trans (b := zu J 69 st (vp_nar .boolean (zb (!zOnB nr fr c n to))) 69 k) rfl ?_
                      by_cases e : k = st
                      · subst e
                        rw [zu_s, va_up_s, vpb]
                      · rw [zu_n _ _ e, va_up_n _ _ e]
                        exact hsy k (by omega)
                    · intro m hm
                      cases hm
                      exact ⟨hc, by rw [hsym n c hnok.1 hc]; exact hnok.2⟩
                    · rw [hf2]
                      exact hgo2
            · refine P_aload_n (pc := 83) dX9_make_83 rfl ?_
              refine P_dup (pc := 84) dX9_make_84 rfl ?_
              refine P_geti (pc := 85) 9 3 (x := nI (mi)) dX9_make_85 fl_X9_23 sh_67 fi_9_3 (h3) ?_
              refine P_iconst (pc := 88) (x := nI 1) dX9_make_88 (by decide) ?_
              refine P_iaddN (pc := 89) dX9_make_89 ?_
              refine P_puti (pc := 90) 9 3 dX9_make_90 fl_X9_23 sh_67 fp_9_3 rfl rfl ?_
              refine P_aload_n (pc := 93) dX9_make_93 rfl ?_
              refine P_dup (pc := 94) dX9_make_94 rfl ?_
              refine P_geti (pc := 95) 9 5 (x := nI (tx)) dX9_make_95 fl_X9_29 sh_67 fi_9_5 (h5) ?_
              refine P_aload_n (pc := 98) dX9_make_98 rfl ?_
              refine P_geti (pc := 99) 8 5 (x := nI (r2)) dX9_make_99 fl_X9_42 sh_36 fi_8_5 ((congrFun (hF 36 (by decide) (by decide) (by decide)) 5).trans hr.2.2) ?_
              refine P_iaddN (pc := 102) dX9_make_102 ?_
              refine P_puti (pc := 103) 9 5 dX9_make_103 fl_X9_29 sh_67 fp_9_5 rfl rfl ?_
              refine P_aload_n (pc := 106) dX9_make_106 rfl ?_
              refine P_dup (pc := 107) dX9_make_107 rfl ?_
              refine P_geti (pc := 108) 9 3 (x := nI (mi + 1)) dX9_make_108 fl_X9_23 sh_67 fi_9_3 (rfl) ?_
              refine P_aload_n (pc := 111) dX9_make_111 rfl ?_
              refine P_getr (pc := 112) 8 0 dX9_make_112 fl_X9_32 sh_36 fr_8_0 F_36_0 ?_
              refine P_getr (pc := 115) 6 4 dX9_make_115 fl_X9_45 sh_37 fr_6_4 F_37_4 ?_
              refine P_iload (pc := 118) dX9_make_118 rfl ?_
              refine P_aald (pc := 120) (c) dX9_make_120 sh_40 (by decide) rfl (by omega) (by decide) (Fr_40 _ (by omega)) ?_
              refine P_iload (pc := 121) dX9_make_121 rfl ?_
              refine P_iald (pc := 123) (n) (x := nI (nr (8 * c + n))) dX9_make_123 (shr_41 _ (by omega)) rfl (by omega) (by decide) (((hC.tf (by repeat (first | exact hF | refine zTf.u ?_ (by decide))) hs_36).2.2.1 _ _ hc hnok.1).trans (congrArg nI (zln_lt hnok.2))) ?_
              refine P_iaddN (pc := 124) dX9_make_124 ?_
              refine P_puti (pc := 125) 9 3 dX9_make_125 fl_X9_23 sh_67 fp_9_3 rfl rfl ?_
              refine P_aload_n (pc := 128) dX9_make_128 rfl ?_
              refine P_getr (pc := 129) 9 1 dX9_make_129 fl_X9_15 sh_67 fr_9_1 F_67_1 ?_
              refine P_iload (pc := 132) dX9_make_132 rfl ?_
              refine P_aload_n (pc := 134) dX9_make_134 rfl ?_
              refine P_getr (pc := 135) 8 0 dX9_make_135 fl_X9_32 sh_36 fr_8_0 F_36_0 ?_
              refine P_iload (pc := 138) dX9_make_138 rfl ?_
              refine P_iload (pc := 140) dX9_make_140 rfl ?_
              refine P_iload (pc := 142) dX9_make_142 rfl ?_
              have hC8 : CSt nc nr fr (zu (zu (zu J 67 3 (nI ((mi) + 1))) 67 5 (nI ((tx) + (r2)))) 67 3 (nI ((mi + 1) + (nr (8 * c + n))))) 37 41 50 := hC.tf (by repeat (first | exact hF | refine zTf.u ?_ (by decide))) hs_36
              obtain ⟨_, _, _, k8, rfl, rfl, rfl⟩ := c_leadsOn_36 (l := l) (D := D) (tw := tw) hC8 (h := c) (n := n) (a := to) hc hnok.1 hto
              refine P_callV (pc := 144) (S := [_, _]) (As := [_, _, _]) k8 dX9_make_144 ok_X6_leadsOn ml_X9_51 iv_X6_leadsOn ⟨by decide, by decide⟩ (zret_b (zOnB nr fr c n to)) rfl ⟨rfl, by decide⟩ sh_37 ⟨by decide, rfl⟩ (Nat.le_of_ble_eq_true rfl) ?_
              refine P_sel1 (pc := 147) (zb (!zOnB nr fr c n to)) 155 (fun k155_147 => ?_) ?_
              · refine P_if_neB (pc := 147) (tgt := 154) dX9_make_147 (by decide) (fun h147 => ?_) (fun h147 => ?_)
                · refine P_iconst (pc := 154) (x := nI 0) dX9_make_154 (by decide) ?_
                  exact k155_147 _ (by rw [h147]; rfl)
                · refine P_iconst (pc := 150) (x := nI 1) dX9_make_150 (by decide) ?_
                  refine P_goto (pc := 151) (tgt := 155) dX9_make_151 (by decide) ?_
                  exact k155_147 _ (by rw [h147]; rfl)
              · refine P_zast (pc := 155) (st) dX9_make_155 sh_69 rfl (by omega) (by decide) ?_
                refine P_aload_n (pc := 156) dX9_make_156 rfl ?_
                refine P_getr (pc := 157) 9 1 dX9_make_157 fl_X9_15 sh_67 fr_9_1 F_67_1 ?_
                refine P_iload (pc := 160) dX9_make_160 rfl ?_
                refine P_zald (pc := 162) (st) (x := zb (!zOnB nr fr c n to)) dX9_make_162 sh_69 rfl (by omega) (by decide) ((zu_s _ _ _ _).trans (vpb _)) ?_
                refine P_if_eqB (pc := 163) (tgt := 205) dX9_make_163 (by decide) (fun h163 => ?_) (fun h163 => ?_)
                · refine P_iload (pc := 205) dX9_make_205 rfl ?_
                  refine P_istore (pc := 207) dX9_make_207 (by decide) rfl ?_
                  refine P_iload (pc := 209) dX9_make_209 rfl ?_
                  refine P_istore (pc := 211) dX9_make_211 (by decide) rfl ?_
                  refine P_aload_n (pc := 213) dX9_make_213 rfl ?_
                  refine P_iload (pc := 214) dX9_make_214 rfl ?_
                  refine P_iconst (pc := 216) (x := nI 1) dX9_make_216 (by decide) ?_
                  refine P_iaddN (pc := 217) dX9_make_217 ?_
                  refine P_puti (pc := 218) 9 2 dX9_make_218 fl_X9_19 sh_67 fp_9_2 rfl rfl ?_
                  refine P_aload_n (pc := 221) dX9_make_221 rfl ?_
                  refine P_getr (pc := 222) 9 0 dX9_make_222 fl_X9_9 sh_67 fr_9_0 F_67_0 ?_
                  refine P_aload_n (pc := 225) dX9_make_225 rfl ?_
                  refine P_geti (pc := 226) 9 2 (x := nI (st + 1)) dX9_make_226 fl_X9_19 sh_67 fi_9_2 (rfl) ?_
                  refine P_iload (pc := 229) dX9_make_229 rfl ?_
                  refine P_iast (pc := 231) ((st + 1)) dX9_make_231 sh_68 rfl (by omega) (by decide) ?_
                  refine P_iincN (pc := 232) (c := 1) dX9_make_232 rfl (by decide) (by decide) rfl ?_
                  refine P_goto (pc := 235) (tgt := 38) dX9_make_235 (by decide) ?_
                  have hon : zOnB nr fr c n to = true := znf h163
                  refine ih (st + 1) (mi + (nr (8 * c + n) + (if kd = 2 then 1 else 0))) (wr + (if zOnB nr fr c n to = true then 0 else 1)) (tx + (if kd = 2 then r2 else 0) + (if zOnB nr fr c n to = true then 0 else (r0 + (if some n = cm then r1 else 0)))) n (some c) (va_up be (st + 1) n) (va_up sy st (!zOnB nr fr c n to)) (some (.int (nI n))) _ (by omega) (by omega) (by repeat (first | exact hF | refine zTf.u ?_ (by decide))) rfl ?_ ?_ ?_ ?_ ?_ hnok.1 ?_ ?_
                  · refine Eq.trans (b := nI (mi + 1 + nr (8 * c + n))) rfl (congrArg nI ?_)
                    rw [if_pos h80]
                    omega
                  · refine Eq.trans (b := J 67 4) rfl (h4.trans (congrArg nI ?_))
                    rw [hon]; rfl
                  · refine Eq.trans (b := nI (tx + r2)) rfl (congrArg nI ?_)
                    rw [hon, if_pos h80]; rfl
                  · intro k hk
                    by_cases e : k = st + 1
                    · subst e
                      exact (zu_s _ _ _ _).trans (congrArg nI (va_up_s _ _ _).symm)
                    · rw [zu_n _ _ e, va_up_n _ _ e]
                      exact hbe k (by omega)
                  · intro k hk
                    refine Eq.trans (b := zu J 69 st (vp_nar .boolean (zb (!zOnB nr fr c n to))) 69 k) rfl ?_
                    by_cases e : k = st
                    · subst e
                      rw [zu_s, va_up_s, vpb]
                    · rw [zu_n _ _ e, va_up_n _ _ e]
                      exact hsy k (by omega)
                  · intro m hm
                    cases hm
                    exact ⟨hc, by rw [hsym n c hnok.1 hc]; exact hnok.2⟩
                  · rw [hf2]
                    exact hgo2
                · refine P_aload_n (pc := 166) dX9_make_166 rfl ?_
                  refine P_dup (pc := 167) dX9_make_167 rfl ?_
                  refine P_geti (pc := 168) 9 4 (x := nI (wr)) dX9_make_168 fl_X9_26 sh_67 fi_9_4 (h4) ?_
                  refine P_iconst (pc := 171) (x := nI 1) dX9_make_171 (by decide) ?_
                  refine P_iaddN (pc := 172) dX9_make_172 ?_
                  refine P_puti (pc := 173) 9 4 dX9_make_173 fl_X9_26 sh_67 fp_9_4 rfl rfl ?_
                  refine P_aload_n (pc := 176) dX9_make_176 rfl ?_
                  refine P_dup (pc := 177) dX9_make_177 rfl ?_
                  refine P_geti (pc := 178) 9 5 (x := nI (tx + r2)) dX9_make_178 fl_X9_29 sh_67 fi_9_5 (rfl) ?_
                  refine P_aload_n (pc := 181) dX9_make_181 rfl ?_
                  refine P_geti (pc := 182) 8 3 (x := nI (r0)) dX9_make_182 fl_X9_55 sh_36 fi_8_3 ((congrFun (hF 36 (by decide) (by decide) (by decide)) 3).trans hr.1) ?_
                  refine P_iload (pc := 185) dX9_make_185 rfl ?_
                  refine P_iload (pc := 187) dX9_make_187 rfl ?_
                  refine P_sel2 (pc := 189) (nI (if some n = cm then r1 else 0)) 200 (fun k200_189 => ?_) ?_
                  · refine P_icmp_ne (pc := 189) (tgt := 199) dX9_make_189 (by decide) (fun h189 => ?_) (fun h189 => ?_)
                    · refine P_iconst (pc := 199) (x := nI 0) dX9_make_199 (by decide) ?_
                      exact k200_189 _ (by first | rw [if_neg (fun z => h189 ((zo_eq1 (by omega) (fun m e => by have := hcm m e; omega)).mpr z))] | rw [if_pos ((zo_eq1 (by omega) (fun m e => by have := hcm m e; omega)).mp h189)] | rw [if_pos ((zo_eq1 (by omega) (fun m e => by have := hcm m e; omega)).mp (Classical.byContradiction h189))])
                    · refine P_aload_n (pc := 192) dX9_make_192 rfl ?_
                      refine P_geti (pc := 193) 8 4 (x := nI (r1)) dX9_make_193 fl_X9_58 sh_36 fi_8_4 ((congrFun (hF 36 (by decide) (by decide) (by decide)) 4).trans hr.2.1) ?_
                      refine P_goto (pc := 196) (tgt := 200) dX9_make_196 (by decide) ?_
                      exact k200_189 _ (by first | rw [if_neg (fun z => h189 ((zo_eq1 (by omega) (fun m e => by have := hcm m e; omega)).mpr z))] | rw [if_pos ((zo_eq1 (by omega) (fun m e => by have := hcm m e; omega)).mp h189)] | rw [if_pos ((zo_eq1 (by omega) (fun m e => by have := hcm m e; omega)).mp (Classical.byContradiction h189))])
                  · refine P_iaddN (pc := 200) dX9_make_200 ?_
                    refine P_iaddN (pc := 201) dX9_make_201 ?_
                    refine P_puti (pc := 202) 9 5 dX9_make_202 fl_X9_29 sh_67 fp_9_5 rfl rfl ?_
                    refine P_iload (pc := 205) dX9_make_205 rfl ?_
                    refine P_istore (pc := 207) dX9_make_207 (by decide) rfl ?_
                    refine P_iload (pc := 209) dX9_make_209 rfl ?_
                    refine P_istore (pc := 211) dX9_make_211 (by decide) rfl ?_
                    refine P_aload_n (pc := 213) dX9_make_213 rfl ?_
                    refine P_iload (pc := 214) dX9_make_214 rfl ?_
                    refine P_iconst (pc := 216) (x := nI 1) dX9_make_216 (by decide) ?_
                    refine P_iaddN (pc := 217) dX9_make_217 ?_
                    refine P_puti (pc := 218) 9 2 dX9_make_218 fl_X9_19 sh_67 fp_9_2 rfl rfl ?_
                    refine P_aload_n (pc := 221) dX9_make_221 rfl ?_
                    refine P_getr (pc := 222) 9 0 dX9_make_222 fl_X9_9 sh_67 fr_9_0 F_67_0 ?_
                    refine P_aload_n (pc := 225) dX9_make_225 rfl ?_
                    refine P_geti (pc := 226) 9 2 (x := nI (st + 1)) dX9_make_226 fl_X9_19 sh_67 fi_9_2 (rfl) ?_
                    refine P_iload (pc := 229) dX9_make_229 rfl ?_
                    refine P_iast (pc := 231) ((st + 1)) dX9_make_231 sh_68 rfl (by omega) (by decide) ?_
                    refine P_iincN (pc := 232) (c := 1) dX9_make_232 rfl (by decide) (by decide) rfl ?_
                    refine P_goto (pc := 235) (tgt := 38) dX9_make_235 (by decide) ?_
                    have hon : zOnB nr fr c n to = false := znt h163
                    refine ih (st + 1) (mi + (nr (8 * c + n) + (if kd = 2 then 1 else 0))) (wr + (if zOnB nr fr c n to = true then 0 else 1)) (tx + (if kd = 2 then r2 else 0) + (if zOnB nr fr c n to = true then 0 else (r0 + (if some n = cm then r1 else 0)))) n (some c) (va_up be (st + 1) n) (va_up sy st (!zOnB nr fr c n to)) (some (.int (nI n))) _ (by omega) (by omega) (by repeat (first | exact hF | refine zTf.u ?_ (by decide))) rfl ?_ ?_ ?_ ?_ ?_ hnok.1 ?_ ?_
                    · refine Eq.trans (b := nI (mi + 1 + nr (8 * c + n))) rfl (congrArg nI ?_)
                      rw [if_pos h80]
                      omega
                    · refine Eq.trans (b := nI (wr + 1)) rfl (congrArg nI ?_)
                      rw [hon]; rfl
                    · refine Eq.trans (b := nI (tx + r2 + (r0 + (if some n = cm then r1 else 0)))) rfl (congrArg nI ?_)
                      rw [hon, if_pos h80]; rfl
                    · intro k hk
                      by_cases e : k = st + 1
                      · subst e
                        exact (zu_s _ _ _ _).trans (congrArg nI (va_up_s _ _ _).symm)
                      · rw [zu_n _ _ e, va_up_n _ _ e]
                        exact hbe k (by omega)
                    · intro k hk
                      refine Eq.trans (b := zu J 69 st (vp_nar .boolean (zb (!zOnB nr fr c n to))) 69 k) rfl ?_
                      by_cases e : k = st
                      · subst e
                        rw [zu_s, va_up_s, vpb]
                      · rw [zu_n _ _ e, va_up_n _ _ e]
                        exact hsy k (by omega)
                    · intro m hm
                      cases hm
                      exact ⟨hc, by rw [hsym n c hnok.1 hc]; exact hnok.2⟩
                    · rw [hf2]
                      exact hgo2
  show ZP _ _ _ _ [some _, some _, some _, some _, some _, some _, some _, none, none, none, none] _ _ _ _
  refine P_aload_n (pc := 0) dX9_make_0 rfl ?_
  refine P_iconst (pc := 1) (x := nI 0) dX9_make_1 (by decide) ?_
  refine P_puti (pc := 2) 9 2 dX9_make_2 fl_X9_19 sh_67 fp_9_2 rfl rfl ?_
  refine P_aload_n (pc := 5) dX9_make_5 rfl ?_
  refine P_iconst (pc := 6) (x := nI 0) dX9_make_6 (by decide) ?_
  refine P_puti (pc := 7) 9 3 dX9_make_7 fl_X9_23 sh_67 fp_9_3 rfl rfl ?_
  refine P_aload_n (pc := 10) dX9_make_10 rfl ?_
  refine P_iconst (pc := 11) (x := nI 0) dX9_make_11 (by decide) ?_
  refine P_puti (pc := 12) 9 4 dX9_make_12 fl_X9_26 sh_67 fp_9_4 rfl rfl ?_
  refine P_aload_n (pc := 15) dX9_make_15 rfl ?_
  refine P_iconst (pc := 16) (x := nI 0) dX9_make_16 (by decide) ?_
  refine P_puti (pc := 17) 9 5 dX9_make_17 fl_X9_29 sh_67 fp_9_5 rfl rfl ?_
  refine P_aload_n (pc := 20) dX9_make_20 rfl ?_
  refine P_getr (pc := 21) 9 0 dX9_make_21 fl_X9_9 sh_67 fr_9_0 F_67_0 ?_
  refine P_iconst (pc := 24) (x := nI 0) dX9_make_24 (by decide) ?_
  refine P_iload (pc := 25) dX9_make_25 rfl ?_
  refine P_iast (pc := 27) (0) dX9_make_27 sh_68 rfl (by omega) (by decide) ?_
  refine P_iconst (pc := 28) (x := (-1)) dX9_make_28 (by decide) ?_
  refine P_istore (pc := 29) dX9_make_29 (by decide) rfl ?_
  refine P_iload (pc := 31) dX9_make_31 rfl ?_
  refine P_istore (pc := 33) dX9_make_33 (by decide) rfl ?_
  refine P_iconst (pc := 35) (x := nI 0) dX9_make_35 (by decide) ?_
  refine P_istore (pc := 36) dX9_make_36 (by decide) rfl ?_
  refine loop 32 0 0 0 0 fm none (fun _ => fm) (fun _ => false) none _ (by omega) (by omega) (((((zTf.rf.u (by decide)).u (by decide)).u (by decide)).u (by decide)).u (by decide)) rfl rfl rfl rfl ?_ ?_ hfm ?_ rfl
  · intro k hk
    have : k = 0 := by omega
    subst this
    rfl
  · intro k hk
    omega
  · intro m hm
    cases hm
set_option maxRecDepth 20000 in
theorem c_make_5_70 {l : Launch} {D : va_G} {tw : Nat} {I : AI} {nc : Nat} {nr fr : Nat → Nat} (hC : CSt nc nr fr I 6 10 19) {m : Nat} {gc gt gn : Nat → Nat} (hS : CSg m gc gt gn I 70) {r0 r1 r2 : Nat} (hr : I 5 3 = nI r0 ∧ I 5 4 = nI r1 ∧ I 5 5 = nI r2) {kd fm a to : Nat} (hn1 : 1 ≤ nc) (hsym : ∀ a b, a < 8 → b < 8 → nr (8 * a + b) = nr (8 * b + a)) (hkd : kd < 4) (hfm : fm < 8) (ha : a < 8) (hto : to < 8) : ZP l D zm_X9_make 0 (zent 11 [.ref 67, .ref 5, .ref 70, .int (nI kd), .int (nI fm), .int (nI a), .int (nI to)]) [] I (zF tw) (fun v J G => v = none ∧ G = zF tw ∧ zMk (zTrip (zNx nc nr fr (fun c => zSign gc gt gn c a m) kd a) (fun c n => zOnB nr fr c n to) nr kd r0 r1 r2 a fm) a I J) := by
  have fin : ∀ (st mi wr tx c : Nat) (cm : Option Nat) (be : Nat → Nat) (sy : Nat → Bool) (v10 : Option Value) (J : AI), zTf I J → J 67 2 = nI st → J 67 3 = nI mi → J 67 4 = nI wr → J 67 5 = nI tx → (∀ k, k ≤ st → J 68 k = nI (be k)) → (∀ k, k < st → J 69 k = zb (sy k)) → c < 8 → (st, mi, wr, tx, c, cm, be, sy) = zTrip (zNx nc nr fr (fun c => zSign gc gt gn c a m) kd a) (fun c n => zOnB nr fr c n to) nr kd r0 r1 r2 a fm → ZP l D zm_X9_make 238 [some (.ref 67), some (.ref 5), some (.ref 70), some (.int (nI kd)), some (.int (nI fm)), some (.int (nI a)), some (.int (nI to)), some (.int (zo (-1) cm)), some (.int (nI c)), some (.int (nI st)), v10] [] J (zF tw) (fun v J G => v = none ∧ G = zF tw ∧ zMk (zTrip (zNx nc nr fr (fun c => zSign gc gt gn c a m) kd a) (fun c n => zOnB nr fr c n to) nr kd r0 r1 r2 a fm) a I J) := by
    intro st mi wr tx c cm be sy v10 J hF h2 h3 h4 h5 hbe hsy hc hgo
    refine P_aload_n (pc := 238) dX9_make_238 rfl ?_
    refine P_iload (pc := 239) dX9_make_239 rfl ?_
    refine P_iload (pc := 241) dX9_make_241 rfl ?_
    refine P_sel2 (pc := 243) (zb (decide (c = a))) 251 (fun k251_243 => ?_) ?_
    · refine P_icmp_neN (pc := 243) (tgt := 250) dX9_make_243 (by decide) (by omega) (by omega) (fun h243 => ?_) (fun h243 => ?_)
      · refine P_iconst (pc := 250) (x := nI 0) dX9_make_250 (by decide) ?_
        exact k251_243 _ (by first | rw [decide_eq_false (by omega)]; rfl | rw [decide_eq_true (by omega)]; rfl)
      · refine P_iconst (pc := 246) (x := nI 1) dX9_make_246 (by decide) ?_
        refine P_goto (pc := 247) (tgt := 251) dX9_make_247 (by decide) ?_
        exact k251_243 _ (by first | rw [decide_eq_false (by omega)]; rfl | rw [decide_eq_true (by omega)]; rfl)
    · refine P_puti (pc := 251) 9 6 dX9_make_251 fl_X9_61 sh_67 fp_9_6 (by cases (decide (c = a)) <;> rfl) (by cases (decide (c = a)) <;> rfl) ?_
      refine P_ret (pc := 254) dX9_make_254 ?_
      rw [← hgo]
      exact ⟨rfl, rfl, hF.u (by decide), h2, h3, h4, h5, rfl, hbe, hsy⟩
  have loop : ∀ (d st mi wr tx c : Nat) (cm : Option Nat) (be : Nat → Nat) (sy : Nat → Bool) (v10 : Option Value) (J : AI), 31 - st < d → st ≤ 30 → zTf I J → J 67 2 = nI st → J 67 3 = nI mi → J 67 4 = nI wr → J 67 5 = nI tx → (∀ k, k ≤ st → J 68 k = nI (be k)) → (∀ k, k < st → J 69 k = zb (sy k)) → c < 8 → (∀ m, cm = some m → m < 8 ∧ nr (8 * c + m) < 10000) → zGo (zNx nc nr fr (fun c => zSign gc gt gn c a m) kd a) (fun c n => zOnB nr fr c n to) nr kd r0 r1 r2 a (30 - st) st mi wr tx c cm be sy = zTrip (zNx nc nr fr (fun c => zSign gc gt gn c a m) kd a) (fun c n => zOnB nr fr c n to) nr kd r0 r1 r2 a fm → ZP l D zm_X9_make 38 [some (.ref 67), some (.ref 5), some (.ref 70), some (.int (nI kd)), some (.int (nI fm)), some (.int (nI a)), some (.int (nI to)), some (.int (zo (-1) cm)), some (.int (nI c)), some (.int (nI st)), v10] [] J (zF tw) (fun v J G => v = none ∧ G = zF tw ∧ zMk (zTrip (zNx nc nr fr (fun c => zSign gc gt gn c a m) kd a) (fun c n => zOnB nr fr c n to) nr kd r0 r1 r2 a fm) a I J) := by
    intro d
    induction d with
    | zero =>
      intro st mi wr tx c cm be sy v10 J hd
      exact absurd hd (by omega)
    | succ d ih =>
      intro st mi wr tx c cm be sy v10 J hd hst30 hF h2 h3 h4 h5 hbe hsy hc hcm hgo
      refine P_iload (pc := 38) dX9_make_38 rfl ?_
      refine P_bipush (pc := 40) (x := nI 30) dX9_make_40 (by decide) ?_
      refine P_icmp_geN (pc := 42) (tgt := 238) dX9_make_42 (by decide) (by omega) (by omega) (fun h42 => ?_) (fun h42 => ?_)
      · exact fin st mi wr tx c cm be sy _ J hF h2 h3 h4 h5 hbe hsy hc (by rw [show 30 - st = 0 by omega] at hgo; exact hgo)
      · refine P_iload (pc := 45) dX9_make_45 rfl ?_
        refine P_iload (pc := 47) dX9_make_47 rfl ?_
        refine P_icmp_eqN (pc := 49) (tgt := 238) dX9_make_49 (by decide) (by omega) (by omega) (fun h49 => ?_) (fun h49 => ?_)
        · exact fin st mi wr tx c cm be sy _ J hF h2 h3 h4 h5 hbe hsy hc (by rw [zGo_aim (by omega)] at hgo; exact hgo)
        · refine P_aload_n (pc := 52) dX9_make_52 rfl ?_
          refine P_getr (pc := 53) 8 0 dX9_make_53 fl_X9_32 sh_5 fr_8_0 F_5_0 ?_
          refine P_aload_n (pc := 56) dX9_make_56 rfl ?_
          refine P_iload_n (pc := 57) dX9_make_57 rfl ?_
          refine P_iload (pc := 58) dX9_make_58 rfl ?_
          refine P_iload (pc := 60) dX9_make_60 rfl ?_
          refine P_iload (pc := 62) dX9_make_62 rfl ?_
          obtain ⟨_, _, _, k9, rfl, rfl, rfl⟩ := c_choose_5_70 (l := l) (D := D) (tw := tw) (hC.tf hF hs_5) (hS.tf hF hg_70) (kd := kd) (h := c) (a := a) (cm := cm) hn1 hkd hc ha (fun m e => (hcm m e).1)
          refine P_callS (pc := 64) (S := []) (As := [_, _, _, _, _, _]) k9 dX9_make_64 ok_X9_choose ml_X9_38 is_X9_choose ⟨by decide, by decide⟩ (zret_i _) rfl ⟨rfl, by decide⟩ (Nat.le_of_ble_eq_true rfl) ?_
          rcases hx : zNx nc nr fr (fun c => zSign gc gt gn c a m) kd a c cm with _ | n
          · have hgo2 := hgo
            rw [zGo_none hx] at hgo2
            refine P_istore (pc := 67) dX9_make_67 (by decide) rfl ?_
            refine P_iload (pc := 69) dX9_make_69 rfl ?_
            refine P_iconst (pc := 71) (x := (-1)) dX9_make_71 (by decide) ?_
            refine P_icmp_neF (pc := 72) (tgt := 78) dX9_make_72 (by decide) (by decide) ?_
            refine P_goto (pc := 75) (tgt := 238) dX9_make_75 (by decide) ?_
            exact fin st mi wr tx c cm be sy _ J hF h2 h3 h4 h5 hbe hsy hc hgo2
          · have hnok := zNx_ok hC.2.1 hcm (fun p e => zSign_lt (b := 8) (fun j hj => (hS.2.2 j hj).2.2.2) e) hx
            have hst : ∃ f, 30 - st = f + 1 ∧ 30 - (st + 1) = f := ⟨30 - st - 1, by omega, by omega⟩
            obtain ⟨f, hf1, hf2⟩ := hst
            have hgo2 := hgo
            rw [hf1, zGo_some (by omega) hx] at hgo2
            refine P_istore (pc := 67) dX9_make_67 (by decide) rfl ?_
            refine P_iload (pc := 69) dX9_make_69 rfl ?_
            refine P_iconst (pc := 71) (x := (-1)) dX9_make_71 (by decide) ?_
            refine P_icmp_neT (pc := 72) (tgt := 78) dX9_make_72 (by decide) (zne1 (by omega)) ?_
            refine P_iload_n (pc := 78) dX9_make_78 rfl ?_
            refine P_iconst (pc := 79) (x := nI 2) dX9_make_79 (by decide) ?_
            refine P_icmp_neN (pc := 80) (tgt := 106) dX9_make_80 (by decide) (by omega) (by omega) (fun h80 => ?_) (fun h80 => ?_)
            · refine P_aload_n (pc := 106) dX9_make_106 rfl ?_
              refine P_dup (pc := 107) dX9_make_107 rfl ?_
              refine P_geti (pc := 108) 9 3 (x := nI (mi)) dX9_make_108 fl_X9_23 sh_67 fi_9_3 (h3) ?_
              refine P_aload_n (pc := 111) dX9_make_111 rfl ?_
              refine P_getr (pc := 112) 8 0 dX9_make_112 fl_X9_32 sh_5 fr_8_0 F_5_0 ?_
              refine P_getr (pc := 115) 6 4 dX9_make_115 fl_X9_45 sh_6 fr_6_4 F_6_4 ?_
              refine P_iload (pc := 118) dX9_make_118 rfl ?_
              refine P_aald (pc := 120) (c) dX9_make_120 sh_9 (by decide) rfl (by omega) (by decide) (Fr_9 _ (by omega)) ?_
              refine P_iload (pc := 121) dX9_make_121 rfl ?_
              refine P_iald (pc := 123) (n) (x := nI (nr (8 * c + n))) dX9_make_123 (shr_10 _ (by omega)) rfl (by omega) (by decide) (((hC.tf (by repeat (first | exact hF | refine zTf.u ?_ (by decide))) hs_5).2.2.1 _ _ hc hnok.1).trans (congrArg nI (zln_lt hnok.2))) ?_
              refine P_iaddN (pc := 124) dX9_make_124 ?_
              refine P_puti (pc := 125) 9 3 dX9_make_125 fl_X9_23 sh_67 fp_9_3 rfl rfl ?_
              refine P_aload_n (pc := 128) dX9_make_128 rfl ?_
              refine P_getr (pc := 129) 9 1 dX9_make_129 fl_X9_15 sh_67 fr_9_1 F_67_1 ?_
              refine P_iload (pc := 132) dX9_make_132 rfl ?_
              refine P_aload_n (pc := 134) dX9_make_134 rfl ?_
              refine P_getr (pc := 135) 8 0 dX9_make_135 fl_X9_32 sh_5 fr_8_0 F_5_0 ?_
              refine P_iload (pc := 138) dX9_make_138 rfl ?_
              refine P_iload (pc := 140) dX9_make_140 rfl ?_
              refine P_iload (pc := 142) dX9_make_142 rfl ?_
              have hC8 : CSt nc nr fr (zu J 67 3 (nI ((mi) + (nr (8 * c + n))))) 6 10 19 := hC.tf (by repeat (first | exact hF | refine zTf.u ?_ (by decide))) hs_5
              obtain ⟨_, _, _, k8, rfl, rfl, rfl⟩ := c_leadsOn_5 (l := l) (D := D) (tw := tw) hC8 (h := c) (n := n) (a := to) hc hnok.1 hto
              refine P_callV (pc := 144) (S := [_, _]) (As := [_, _, _]) k8 dX9_make_144 ok_X6_leadsOn ml_X9_51 iv_X6_leadsOn ⟨by decide, by decide⟩ (zret_b (zOnB nr fr c n to)) rfl ⟨rfl, by decide⟩ sh_6 ⟨by decide, rfl⟩ (Nat.le_of_ble_eq_true rfl) ?_
              refine P_sel1 (pc := 147) (zb (!zOnB nr fr c n to)) 155 (fun k155_147 => ?_) ?_
              · refine P_if_neB (pc := 147) (tgt := 154) dX9_make_147 (by decide) (fun h147 => ?_) (fun h147 => ?_)
                · refine P_iconst (pc := 154) (x := nI 0) dX9_make_154 (by decide) ?_
                  exact k155_147 _ (by rw [h147]; rfl)
                · refine P_iconst (pc := 150) (x := nI 1) dX9_make_150 (by decide) ?_
                  refine P_goto (pc := 151) (tgt := 155) dX9_make_151 (by decide) ?_
                  exact k155_147 _ (by rw [h147]; rfl)
              · refine P_zast (pc := 155) (st) dX9_make_155 sh_69 rfl (by omega) (by decide) ?_
                refine P_aload_n (pc := 156) dX9_make_156 rfl ?_
                refine P_getr (pc := 157) 9 1 dX9_make_157 fl_X9_15 sh_67 fr_9_1 F_67_1 ?_
                refine P_iload (pc := 160) dX9_make_160 rfl ?_
                refine P_zald (pc := 162) (st) (x := zb (!zOnB nr fr c n to)) dX9_make_162 sh_69 rfl (by omega) (by decide) ((zu_s _ _ _ _).trans (vpb _)) ?_
                refine P_if_eqB (pc := 163) (tgt := 205) dX9_make_163 (by decide) (fun h163 => ?_) (fun h163 => ?_)
                · refine P_iload (pc := 205) dX9_make_205 rfl ?_
                  refine P_istore (pc := 207) dX9_make_207 (by decide) rfl ?_
                  refine P_iload (pc := 209) dX9_make_209 rfl ?_
                  refine P_istore (pc := 211) dX9_make_211 (by decide) rfl ?_
                  refine P_aload_n (pc := 213) dX9_make_213 rfl ?_
                  refine P_iload (pc := 214) dX9_make_214 rfl ?_
                  refine P_iconst (pc := 216) (x := nI 1) dX9_make_216 (by decide) ?_
                  refine P_iaddN (pc := 217) dX9_make_217 ?_
                  refine P_puti (pc := 218) 9 2 dX9_make_218 fl_X9_19 sh_67 fp_9_2 rfl rfl ?_
                  refine P_aload_n (pc := 221) dX9_make_221 rfl ?_
                  refine P_getr (pc := 222) 9 0 dX9_make_222 fl_X9_9 sh_67 fr_9_0 F_67_0 ?_
                  refine P_aload_n (pc := 225) dX9_make_225 rfl ?_
                  refine P_geti (pc := 226) 9 2 (x := nI (st + 1)) dX9_make_226 fl_X9_19 sh_67 fi_9_2 (rfl) ?_
                  refine P_iload (pc := 229) dX9_make_229 rfl ?_
                  refine P_iast (pc := 231) ((st + 1)) dX9_make_231 sh_68 rfl (by omega) (by decide) ?_
                  refine P_iincN (pc := 232) (c := 1) dX9_make_232 rfl (by decide) (by decide) rfl ?_
                  refine P_goto (pc := 235) (tgt := 38) dX9_make_235 (by decide) ?_
                  have hon : zOnB nr fr c n to = true := znf h163
                  refine ih (st + 1) (mi + (nr (8 * c + n) + (if kd = 2 then 1 else 0))) (wr + (if zOnB nr fr c n to = true then 0 else 1)) (tx + (if kd = 2 then r2 else 0) + (if zOnB nr fr c n to = true then 0 else (r0 + (if some n = cm then r1 else 0)))) n (some c) (va_up be (st + 1) n) (va_up sy st (!zOnB nr fr c n to)) (some (.int (nI n))) _ (by omega) (by omega) (by repeat (first | exact hF | refine zTf.u ?_ (by decide))) rfl ?_ ?_ ?_ ?_ ?_ hnok.1 ?_ ?_
                  · refine Eq.trans (b := nI (mi + nr (8 * c + n))) rfl (congrArg nI ?_)
                    rw [if_neg h80]
                    omega
                  · refine Eq.trans (b := J 67 4) rfl (h4.trans (congrArg nI ?_))
                    rw [hon]; rfl
                  · refine Eq.trans (b := J 67 5) rfl (h5.trans (congrArg nI ?_))
                    rw [hon, if_neg h80]; rfl
                  · intro k hk
                    by_cases e : k = st + 1
                    · subst e
                      exact (zu_s _ _ _ _).trans (congrArg nI (va_up_s _ _ _).symm)
                    · rw [zu_n _ _ e, va_up_n _ _ e]
                      exact hbe k (by omega)
                  · intro k hk
                    refine Eq.trans (b := zu J 69 st (vp_nar .boolean (zb (!zOnB nr fr c n to))) 69 k) rfl ?_
                    by_cases e : k = st
                    · subst e
                      rw [zu_s, va_up_s, vpb]
                    · rw [zu_n _ _ e, va_up_n _ _ e]
                      exact hsy k (by omega)
                  · intro m hm
                    cases hm
                    exact ⟨hc, by rw [hsym n c hnok.1 hc]; exact hnok.2⟩
                  · rw [hf2]
                    exact hgo2
                · refine P_aload_n (pc := 166) dX9_make_166 rfl ?_
                  refine P_dup (pc := 167) dX9_make_167 rfl ?_
                  refine P_geti (pc := 168) 9 4 (x := nI (wr)) dX9_make_168 fl_X9_26 sh_67 fi_9_4 (h4) ?_
                  refine P_iconst (pc := 171) (x := nI 1) dX9_make_171 (by decide) ?_
                  refine P_iaddN (pc := 172) dX9_make_172 ?_
                  refine P_puti (pc := 173) 9 4 dX9_make_173 fl_X9_26 sh_67 fp_9_4 rfl rfl ?_
                  refine P_aload_n (pc := 176) dX9_make_176 rfl ?_
                  refine P_dup (pc := 177) dX9_make_177 rfl ?_
                  refine P_geti (pc := 178) 9 5 (x := nI (tx)) dX9_make_178 fl_X9_29 sh_67 fi_9_5 (h5) ?_
                  refine P_aload_n (pc := 181) dX9_make_181 rfl ?_
                  refine P_geti (pc := 182) 8 3 (x := nI (r0)) dX9_make_182 fl_X9_55 sh_5 fi_8_3 ((congrFun (hF 5 (by decide) (by decide) (by decide)) 3).trans hr.1) ?_
                  refine P_iload (pc := 185) dX9_make_185 rfl ?_
                  refine P_iload (pc := 187) dX9_make_187 rfl ?_
                  refine P_sel2 (pc := 189) (nI (if some n = cm then r1 else 0)) 200 (fun k200_189 => ?_) ?_
                  · refine P_icmp_ne (pc := 189) (tgt := 199) dX9_make_189 (by decide) (fun h189 => ?_) (fun h189 => ?_)
                    · refine P_iconst (pc := 199) (x := nI 0) dX9_make_199 (by decide) ?_
                      exact k200_189 _ (by first | rw [if_neg (fun z => h189 ((zo_eq1 (by omega) (fun m e => by have := hcm m e; omega)).mpr z))] | rw [if_pos ((zo_eq1 (by omega) (fun m e => by have := hcm m e; omega)).mp h189)] | rw [if_pos ((zo_eq1 (by omega) (fun m e => by have := hcm m e; omega)).mp (Classical.byContradiction h189))])
                    · refine P_aload_n (pc := 192) dX9_make_192 rfl ?_
                      refine P_geti (pc := 193) 8 4 (x := nI (r1)) dX9_make_193 fl_X9_58 sh_5 fi_8_4 ((congrFun (hF 5 (by decide) (by decide) (by decide)) 4).trans hr.2.1) ?_
                      refine P_goto (pc := 196) (tgt := 200) dX9_make_196 (by decide) ?_
                      exact k200_189 _ (by first | rw [if_neg (fun z => h189 ((zo_eq1 (by omega) (fun m e => by have := hcm m e; omega)).mpr z))] | rw [if_pos ((zo_eq1 (by omega) (fun m e => by have := hcm m e; omega)).mp h189)] | rw [if_pos ((zo_eq1 (by omega) (fun m e => by have := hcm m e; omega)).mp (Classical.byContradiction h189))])
                  · refine P_iaddN (pc := 200) dX9_make_200 ?_
                    refine P_iaddN (pc := 201) dX9_make_201 ?_
                    refine P_puti (pc := 202) 9 5 dX9_make_202 fl_X9_29 sh_67 fp_9_5 rfl rfl ?_
                    refine P_iload (pc := 205) dX9_make_205 rfl ?_
                    refine P_istore (pc := 207) dX9_make_207 (by decide) rfl ?_
                    refine P_iload (pc := 209) dX9_make_209 rfl ?_
                    refine P_istore (pc := 211) dX9_make_211 (by decide) rfl ?_
                    refine P_aload_n (pc := 213) dX9_make_213 rfl ?_
                    refine P_iload (pc := 214) dX9_make_214 rfl ?_
                    refine P_iconst (pc := 216) (x := nI 1) dX9_make_216 (by decide) ?_
                    refine P_iaddN (pc := 217) dX9_make_217 ?_
                    refine P_puti (pc := 218) 9 2 dX9_make_218 fl_X9_19 sh_67 fp_9_2 rfl rfl ?_
                    refine P_aload_n (pc := 221) dX9_make_221 rfl ?_
                    refine P_getr (pc := 222) 9 0 dX9_make_222 fl_X9_9 sh_67 fr_9_0 F_67_0 ?_
                    refine P_aload_n (pc := 225) dX9_make_225 rfl ?_
                    refine P_geti (pc := 226) 9 2 (x := nI (st + 1)) dX9_make_226 fl_X9_19 sh_67 fi_9_2 (rfl) ?_
                    refine P_iload (pc := 229) dX9_make_229 rfl ?_
                    refine P_iast (pc := 231) ((st + 1)) dX9_make_231 sh_68 rfl (by omega) (by decide) ?_
                    refine P_iincN (pc := 232) (c := 1) dX9_make_232 rfl (by decide) (by decide) rfl ?_
                    refine P_goto (pc := 235) (tgt := 38) dX9_make_235 (by decide) ?_
                    have hon : zOnB nr fr c n to = false := znt h163
                    refine ih (st + 1) (mi + (nr (8 * c + n) + (if kd = 2 then 1 else 0))) (wr + (if zOnB nr fr c n to = true then 0 else 1)) (tx + (if kd = 2 then r2 else 0) + (if zOnB nr fr c n to = true then 0 else (r0 + (if some n = cm then r1 else 0)))) n (some c) (va_up be (st + 1) n) (va_up sy st (!zOnB nr fr c n to)) (some (.int (nI n))) _ (by omega) (by omega) (by repeat (first | exact hF | refine zTf.u ?_ (by decide))) rfl ?_ ?_ ?_ ?_ ?_ hnok.1 ?_ ?_
                    · refine Eq.trans (b := nI (mi + nr (8 * c + n))) rfl (congrArg nI ?_)
                      rw [if_neg h80]
                      omega
                    · refine Eq.trans (b := nI (wr + 1)) rfl (congrArg nI ?_)
                      rw [hon]; rfl
                    · refine Eq.trans (b := nI (tx + (r0 + (if some n = cm then r1 else 0)))) rfl (congrArg nI ?_)
                      rw [hon, if_neg h80]; rfl
                    · intro k hk
                      by_cases e : k = st + 1
                      · subst e
                        exact (zu_s _ _ _ _).trans (congrArg nI (va_up_s _ _ _).symm)
                      · rw [zu_n _ _ e, va_up_n _ _ e]
                        exact hbe k (by omega)
                    · intro k hk
                      refine Eq.trans (b := zu J 69 st (vp_nar .boolean (zb (!zOnB nr fr c n to))) 69 k) rfl ?_
                      by_cases e : k = st
                      · subst e
                        rw [zu_s, va_up_s, vpb]
                      · rw [zu_n _ _ e, va_up_n _ _ e]
                        exact hsy k (by omega)
                    · intro m hm
                      cases hm
                      exact ⟨hc, by rw [hsym n c hnok.1 hc]; exact hnok.2⟩
                    · rw [hf2]
                      exact hgo2
            · refine P_aload_n (pc := 83) dX9_make_83 rfl ?_
              refine P_dup (pc := 84) dX9_make_84 rfl ?_
              refine P_geti (pc := 85) 9 3 (x := nI (mi)) dX9_make_85 fl_X9_23 sh_67 fi_9_3 (h3) ?_
              refine P_iconst (pc := 88) (x := nI 1) dX9_make_88 (by decide) ?_
              refine P_iaddN (pc := 89) dX9_make_89 ?_
              refine P_puti (pc := 90) 9 3 dX9_make_90 fl_X9_23 sh_67 fp_9_3 rfl rfl ?_
              refine P_aload_n (pc := 93) dX9_make_93 rfl ?_
              refine P_dup (pc := 94) dX9_make_94 rfl ?_
              refine P_geti (pc := 95) 9 5 (x := nI (tx)) dX9_make_95 fl_X9_29 sh_67 fi_9_5 (h5) ?_
              refine P_aload_n (pc := 98) dX9_make_98 rfl ?_
              refine P_geti (pc := 99) 8 5 (x := nI (r2)) dX9_make_99 fl_X9_42 sh_5 fi_8_5 ((congrFun (hF 5 (by decide) (by decide) (by decide)) 5).trans hr.2.2) ?_
              refine P_iaddN (pc := 102) dX9_make_102 ?_
              refine P_puti (pc := 103) 9 5 dX9_make_103 fl_X9_29 sh_67 fp_9_5 rfl rfl ?_
              refine P_aload_n (pc := 106) dX9_make_106 rfl ?_
              refine P_dup (pc := 107) dX9_make_107 rfl ?_
              refine P_geti (pc := 108) 9 3 (x := nI (mi + 1)) dX9_make_108 fl_X9_23 sh_67 fi_9_3 (rfl) ?_
              refine P_aload_n (pc := 111) dX9_make_111 rfl ?_
              refine P_getr (pc := 112) 8 0 dX9_make_112 fl_X9_32 sh_5 fr_8_0 F_5_0 ?_
              refine P_getr (pc := 115) 6 4 dX9_make_115 fl_X9_45 sh_6 fr_6_4 F_6_4 ?_
              refine P_iload (pc := 118) dX9_make_118 rfl ?_
              refine P_aald (pc := 120) (c) dX9_make_120 sh_9 (by decide) rfl (by omega) (by decide) (Fr_9 _ (by omega)) ?_
              refine P_iload (pc := 121) dX9_make_121 rfl ?_
              refine P_iald (pc := 123) (n) (x := nI (nr (8 * c + n))) dX9_make_123 (shr_10 _ (by omega)) rfl (by omega) (by decide) (((hC.tf (by repeat (first | exact hF | refine zTf.u ?_ (by decide))) hs_5).2.2.1 _ _ hc hnok.1).trans (congrArg nI (zln_lt hnok.2))) ?_
              refine P_iaddN (pc := 124) dX9_make_124 ?_
              refine P_puti (pc := 125) 9 3 dX9_make_125 fl_X9_23 sh_67 fp_9_3 rfl rfl ?_
              refine P_aload_n (pc := 128) dX9_make_128 rfl ?_
              refine P_getr (pc := 129) 9 1 dX9_make_129 fl_X9_15 sh_67 fr_9_1 F_67_1 ?_
              refine P_iload (pc := 132) dX9_make_132 rfl ?_
              refine P_aload_n (pc := 134) dX9_make_134 rfl ?_
              refine P_getr (pc := 135) 8 0 dX9_make_135 fl_X9_32 sh_5 fr_8_0 F_5_0 ?_
              refine P_iload (pc := 138) dX9_make_138 rfl ?_
              refine P_iload (pc := 140) dX9_make_140 rfl ?_
              refine P_iload (pc := 142) dX9_make_142 rfl ?_
              have hC8 : CSt nc nr fr (zu (zu (zu J 67 3 (nI ((mi) + 1))) 67 5 (nI ((tx) + (r2)))) 67 3 (nI ((mi + 1) + (nr (8 * c + n))))) 6 10 19 := hC.tf (by repeat (first | exact hF | refine zTf.u ?_ (by decide))) hs_5
              obtain ⟨_, _, _, k8, rfl, rfl, rfl⟩ := c_leadsOn_5 (l := l) (D := D) (tw := tw) hC8 (h := c) (n := n) (a := to) hc hnok.1 hto
              refine P_callV (pc := 144) (S := [_, _]) (As := [_, _, _]) k8 dX9_make_144 ok_X6_leadsOn ml_X9_51 iv_X6_leadsOn ⟨by decide, by decide⟩ (zret_b (zOnB nr fr c n to)) rfl ⟨rfl, by decide⟩ sh_6 ⟨by decide, rfl⟩ (Nat.le_of_ble_eq_true rfl) ?_
              refine P_sel1 (pc := 147) (zb (!zOnB nr fr c n to)) 155 (fun k155_147 => ?_) ?_
              · refine P_if_neB (pc := 147) (tgt := 154) dX9_make_147 (by decide) (fun h147 => ?_) (fun h147 => ?_)
                · refine P_iconst (pc := 154) (x := nI 0) dX9_make_154 (by decide) ?_
                  exact k155_147 _ (by rw [h147]; rfl)
                · refine P_iconst (pc := 150) (x := nI 1) dX9_make_150 (by decide) ?_
                  refine P_goto (pc := 151) (tgt := 155) dX9_make_151 (by decide) ?_
                  exact k155_147 _ (by rw [h147]; rfl)
              · refine P_zast (pc := 155) (st) dX9_make_155 sh_69 rfl (by omega) (by decide) ?_
                refine P_aload_n (pc := 156) dX9_make_156 rfl ?_
                refine P_getr (pc := 157) 9 1 dX9_make_157 fl_X9_15 sh_67 fr_9_1 F_67_1 ?_
                refine P_iload (pc := 160) dX9_make_160 rfl ?_
                refine P_zald (pc := 162) (st) (x := zb (!zOnB nr fr c n to)) dX9_make_162 sh_69 rfl (by omega) (by decide) ((zu_s _ _ _ _).trans (vpb _)) ?_
                refine P_if_eqB (pc := 163) (tgt := 205) dX9_make_163 (by decide) (fun h163 => ?_) (fun h163 => ?_)
                · refine P_iload (pc := 205) dX9_make_205 rfl ?_
                  refine P_istore (pc := 207) dX9_make_207 (by decide) rfl ?_
                  refine P_iload (pc := 209) dX9_make_209 rfl ?_
                  refine P_istore (pc := 211) dX9_make_211 (by decide) rfl ?_
                  refine P_aload_n (pc := 213) dX9_make_213 rfl ?_
                  refine P_iload (pc := 214) dX9_make_214 rfl ?_
                  refine P_iconst (pc := 216) (x := nI 1) dX9_make_216 (by decide) ?_
                  refine P_iaddN (pc := 217) dX9_make_217 ?_
                  refine P_puti (pc := 218) 9 2 dX9_make_218 fl_X9_19 sh_67 fp_9_2 rfl rfl ?_
                  refine P_aload_n (pc := 221) dX9_make_221 rfl ?_
                  refine P_getr (pc := 222) 9 0 dX9_make_222 fl_X9_9 sh_67 fr_9_0 F_67_0 ?_
                  refine P_aload_n (pc := 225) dX9_make_225 rfl ?_
                  refine P_geti (pc := 226) 9 2 (x := nI (st + 1)) dX9_make_226 fl_X9_19 sh_67 fi_9_2 (rfl) ?_
                  refine P_iload (pc := 229) dX9_make_229 rfl ?_
                  refine P_iast (pc := 231) ((st + 1)) dX9_make_231 sh_68 rfl (by omega) (by decide) ?_
                  refine P_iincN (pc := 232) (c := 1) dX9_make_232 rfl (by decide) (by decide) rfl ?_
                  refine P_goto (pc := 235) (tgt := 38) dX9_make_235 (by decide) ?_
                  have hon : zOnB nr fr c n to = true := znf h163
                  refine ih (st + 1) (mi + (nr (8 * c + n) + (if kd = 2 then 1 else 0))) (wr + (if zOnB nr fr c n to = true then 0 else 1)) (tx + (if kd = 2 then r2 else 0) + (if zOnB nr fr c n to = true then 0 else (r0 + (if some n = cm then r1 else 0)))) n (some c) (va_up be (st + 1) n) (va_up sy st (!zOnB nr fr c n to)) (some (.int (nI n))) _ (by omega) (by omega) (by repeat (first | exact hF | refine zTf.u ?_ (by decide))) rfl ?_ ?_ ?_ ?_ ?_ hnok.1 ?_ ?_
                  · refine Eq.trans (b := nI (mi + 1 + nr (8 * c + n))) rfl (congrArg nI ?_)
                    rw [if_pos h80]
                    omega
                  · refine Eq.trans (b := J 67 4) rfl (h4.trans (congrArg nI ?_))
                    rw [hon]; rfl
                  · refine Eq.trans (b := nI (tx + r2)) rfl (congrArg nI ?_)
                    rw [hon, if_pos h80]; rfl
                  · intro k hk
                    by_cases e : k = st + 1
                    · subst e
                      exact (zu_s _ _ _ _).trans (congrArg nI (va_up_s _ _ _).symm)
                    · rw [zu_n _ _ e, va_up_n _ _ e]
                      exact hbe k (by omega)
                  · intro k hk
                    refine Eq.trans (b := zu J 69 st (vp_nar .boolean (zb (!zOnB nr fr c n to))) 69 k) rfl ?_
                    by_cases e : k = st
                    · subst e
                      rw [zu_s, va_up_s, vpb]
                    · rw [zu_n _ _ e, va_up_n _ _ e]
                      exact hsy k (by omega)
                  · intro m hm
                    cases hm
                    exact ⟨hc, by rw [hsym n c hnok.1 hc]; exact hnok.2⟩
                  · rw [hf2]
                    exact hgo2
                · refine P_aload_n (pc := 166) dX9_make_166 rfl ?_
                  refine P_dup (pc := 167) dX9_make_167 rfl ?_
                  refine P_geti (pc := 168) 9 4 (x := nI (wr)) dX9_make_168 fl_X9_26 sh_67 fi_9_4 (h4) ?_
                  refine P_iconst (pc := 171) (x := nI 1) dX9_make_171 (by decide) ?_
                  refine P_iaddN (pc := 172) dX9_make_172 ?_
                  refine P_puti (pc := 173) 9 4 dX9_make_173 fl_X9_26 sh_67 fp_9_4 rfl rfl ?_
                  refine P_aload_n (pc := 176) dX9_make_176 rfl ?_
                  refine P_dup (pc := 177) dX9_make_177 rfl ?_
                  refine P_geti (pc := 178) 9 5 (x := nI (tx + r2)) dX9_make_178 fl_X9_29 sh_67 fi_9_5 (rfl) ?_
                  refine P_aload_n (pc := 181) dX9_make_181 rfl ?_
                  refine P_geti (pc := 182) 8 3 (x := nI (r0)) dX9_make_182 fl_X9_55 sh_5 fi_8_3 ((congrFun (hF 5 (by decide) (by decide) (by decide)) 3).trans hr.1) ?_
                  refine P_iload (pc := 185) dX9_make_185 rfl ?_
                  refine P_iload (pc := 187) dX9_make_187 rfl ?_
                  refine P_sel2 (pc := 189) (nI (if some n = cm then r1 else 0)) 200 (fun k200_189 => ?_) ?_
                  · refine P_icmp_ne (pc := 189) (tgt := 199) dX9_make_189 (by decide) (fun h189 => ?_) (fun h189 => ?_)
                    · refine P_iconst (pc := 199) (x := nI 0) dX9_make_199 (by decide) ?_
                      exact k200_189 _ (by first | rw [if_neg (fun z => h189 ((zo_eq1 (by omega) (fun m e => by have := hcm m e; omega)).mpr z))] | rw [if_pos ((zo_eq1 (by omega) (fun m e => by have := hcm m e; omega)).mp h189)] | rw [if_pos ((zo_eq1 (by omega) (fun m e => by have := hcm m e; omega)).mp (Classical.byContradiction h189))])
                    · refine P_aload_n (pc := 192) dX9_make_192 rfl ?_
                      refine P_geti (pc := 193) 8 4 (x := nI (r1)) dX9_make_193 fl_X9_58 sh_5 fi_8_4 ((congrFun (hF 5 (by decide) (by decide) (by decide)) 4).trans hr.2.1) ?_
                      refine P_goto (pc := 196) (tgt := 200) dX9_make_196 (by decide) ?_
                      exact k200_189 _ (by first | rw [if_neg (fun z => h189 ((zo_eq1 (by omega) (fun m e => by have := hcm m e; omega)).mpr z))] | rw [if_pos ((zo_eq1 (by omega) (fun m e => by have := hcm m e; omega)).mp h189)] | rw [if_pos ((zo_eq1 (by omega) (fun m e => by have := hcm m e; omega)).mp (Classical.byContradiction h189))])
                  · refine P_iaddN (pc := 200) dX9_make_200 ?_
                    refine P_iaddN (pc := 201) dX9_make_201 ?_
                    refine P_puti (pc := 202) 9 5 dX9_make_202 fl_X9_29 sh_67 fp_9_5 rfl rfl ?_
                    refine P_iload (pc := 205) dX9_make_205 rfl ?_
                    refine P_istore (pc := 207) dX9_make_207 (by decide) rfl ?_
                    refine P_iload (pc := 209) dX9_make_209 rfl ?_
                    refine P_istore (pc := 211) dX9_make_211 (by decide) rfl ?_
                    refine P_aload_n (pc := 213) dX9_make_213 rfl ?_
                    refine P_iload (pc := 214) dX9_make_214 rfl ?_
                    refine P_iconst (pc := 216) (x := nI 1) dX9_make_216 (by decide) ?_
                    refine P_iaddN (pc := 217) dX9_make_217 ?_
                    refine P_puti (pc := 218) 9 2 dX9_make_218 fl_X9_19 sh_67 fp_9_2 rfl rfl ?_
                    refine P_aload_n (pc := 221) dX9_make_221 rfl ?_
                    refine P_getr (pc := 222) 9 0 dX9_make_222 fl_X9_9 sh_67 fr_9_0 F_67_0 ?_
                    refine P_aload_n (pc := 225) dX9_make_225 rfl ?_
                    refine P_geti (pc := 226) 9 2 (x := nI (st + 1)) dX9_make_226 fl_X9_19 sh_67 fi_9_2 (rfl) ?_
                    refine P_iload (pc := 229) dX9_make_229 rfl ?_
                    refine P_iast (pc := 231) ((st + 1)) dX9_make_231 sh_68 rfl (by omega) (by decide) ?_
                    refine P_iincN (pc := 232) (c := 1) dX9_make_232 rfl (by decide) (by decide) rfl ?_
                    refine P_goto (pc := 235) (tgt := 38) dX9_make_235 (by decide) ?_
                    have hon : zOnB nr fr c n to = false := znt h163
                    refine ih (st + 1) (mi + (nr (8 * c + n) + (if kd = 2 then 1 else 0))) (wr + (if zOnB nr fr c n to = true then 0 else 1)) (tx + (if kd = 2 then r2 else 0) + (if zOnB nr fr c n to = true then 0 else (r0 + (if some n = cm then r1 else 0)))) n (some c) (va_up be (st + 1) n) (va_up sy st (!zOnB nr fr c n to)) (some (.int (nI n))) _ (by omega) (by omega) (by repeat (first | exact hF | refine zTf.u ?_ (by decide))) rfl ?_ ?_ ?_ ?_ ?_ hnok.1 ?_ ?_
                    · refine Eq.trans (b := nI (mi + 1 + nr (8 * c + n))) rfl (congrArg nI ?_)
                      rw [if_pos h80]
                      omega
                    · refine Eq.trans (b := nI (wr + 1)) rfl (congrArg nI ?_)
                      rw [hon]; rfl
                    · refine Eq.trans (b := nI (tx + r2 + (r0 + (if some n = cm then r1 else 0)))) rfl (congrArg nI ?_)
                      rw [hon, if_pos h80]; rfl
                    · intro k hk
                      by_cases e : k = st + 1
                      · subst e
                        exact (zu_s _ _ _ _).trans (congrArg nI (va_up_s _ _ _).symm)
                      · rw [zu_n _ _ e, va_up_n _ _ e]
                        exact hbe k (by omega)
                    · intro k hk
                      refine Eq.trans (b := zu J 69 st (vp_nar .boolean (zb (!zOnB nr fr c n to))) 69 k) rfl ?_
                      by_cases e : k = st
                      · subst e
                        rw [zu_s, va_up_s, vpb]
                      · rw [zu_n _ _ e, va_up_n _ _ e]
                        exact hsy k (by omega)
                    · intro m hm
                      cases hm
                      exact ⟨hc, by rw [hsym n c hnok.1 hc]; exact hnok.2⟩
                    · rw [hf2]
                      exact hgo2
  show ZP _ _ _ _ [some _, some _, some _, some _, some _, some _, some _, none, none, none, none] _ _ _ _
  refine P_aload_n (pc := 0) dX9_make_0 rfl ?_
  refine P_iconst (pc := 1) (x := nI 0) dX9_make_1 (by decide) ?_
  refine P_puti (pc := 2) 9 2 dX9_make_2 fl_X9_19 sh_67 fp_9_2 rfl rfl ?_
  refine P_aload_n (pc := 5) dX9_make_5 rfl ?_
  refine P_iconst (pc := 6) (x := nI 0) dX9_make_6 (by decide) ?_
  refine P_puti (pc := 7) 9 3 dX9_make_7 fl_X9_23 sh_67 fp_9_3 rfl rfl ?_
  refine P_aload_n (pc := 10) dX9_make_10 rfl ?_
  refine P_iconst (pc := 11) (x := nI 0) dX9_make_11 (by decide) ?_
  refine P_puti (pc := 12) 9 4 dX9_make_12 fl_X9_26 sh_67 fp_9_4 rfl rfl ?_
  refine P_aload_n (pc := 15) dX9_make_15 rfl ?_
  refine P_iconst (pc := 16) (x := nI 0) dX9_make_16 (by decide) ?_
  refine P_puti (pc := 17) 9 5 dX9_make_17 fl_X9_29 sh_67 fp_9_5 rfl rfl ?_
  refine P_aload_n (pc := 20) dX9_make_20 rfl ?_
  refine P_getr (pc := 21) 9 0 dX9_make_21 fl_X9_9 sh_67 fr_9_0 F_67_0 ?_
  refine P_iconst (pc := 24) (x := nI 0) dX9_make_24 (by decide) ?_
  refine P_iload (pc := 25) dX9_make_25 rfl ?_
  refine P_iast (pc := 27) (0) dX9_make_27 sh_68 rfl (by omega) (by decide) ?_
  refine P_iconst (pc := 28) (x := (-1)) dX9_make_28 (by decide) ?_
  refine P_istore (pc := 29) dX9_make_29 (by decide) rfl ?_
  refine P_iload (pc := 31) dX9_make_31 rfl ?_
  refine P_istore (pc := 33) dX9_make_33 (by decide) rfl ?_
  refine P_iconst (pc := 35) (x := nI 0) dX9_make_35 (by decide) ?_
  refine P_istore (pc := 36) dX9_make_36 (by decide) rfl ?_
  refine loop 32 0 0 0 0 fm none (fun _ => fm) (fun _ => false) none _ (by omega) (by omega) (((((zTf.rf.u (by decide)).u (by decide)).u (by decide)).u (by decide)).u (by decide)) rfl rfl rfl rfl ?_ ?_ hfm ?_ rfl
  · intro k hk
    have : k = 0 := by omega
    subst this
    rfl
  · intro k hk
    omega
  · intro m hm
    cases hm
set_option maxRecDepth 20000 in
theorem c_make_36_70 {l : Launch} {D : va_G} {tw : Nat} {I : AI} {nc : Nat} {nr fr : Nat → Nat} (hC : CSt nc nr fr I 37 41 50) {m : Nat} {gc gt gn : Nat → Nat} (hS : CSg m gc gt gn I 70) {r0 r1 r2 : Nat} (hr : I 36 3 = nI r0 ∧ I 36 4 = nI r1 ∧ I 36 5 = nI r2) {kd fm a to : Nat} (hn1 : 1 ≤ nc) (hsym : ∀ a b, a < 8 → b < 8 → nr (8 * a + b) = nr (8 * b + a)) (hkd : kd < 4) (hfm : fm < 8) (ha : a < 8) (hto : to < 8) : ZP l D zm_X9_make 0 (zent 11 [.ref 67, .ref 36, .ref 70, .int (nI kd), .int (nI fm), .int (nI a), .int (nI to)]) [] I (zF tw) (fun v J G => v = none ∧ G = zF tw ∧ zMk (zTrip (zNx nc nr fr (fun c => zSign gc gt gn c a m) kd a) (fun c n => zOnB nr fr c n to) nr kd r0 r1 r2 a fm) a I J) := by
  have fin : ∀ (st mi wr tx c : Nat) (cm : Option Nat) (be : Nat → Nat) (sy : Nat → Bool) (v10 : Option Value) (J : AI), zTf I J → J 67 2 = nI st → J 67 3 = nI mi → J 67 4 = nI wr → J 67 5 = nI tx → (∀ k, k ≤ st → J 68 k = nI (be k)) → (∀ k, k < st → J 69 k = zb (sy k)) → c < 8 → (st, mi, wr, tx, c, cm, be, sy) = zTrip (zNx nc nr fr (fun c => zSign gc gt gn c a m) kd a) (fun c n => zOnB nr fr c n to) nr kd r0 r1 r2 a fm → ZP l D zm_X9_make 238 [some (.ref 67), some (.ref 36), some (.ref 70), some (.int (nI kd)), some (.int (nI fm)), some (.int (nI a)), some (.int (nI to)), some (.int (zo (-1) cm)), some (.int (nI c)), some (.int (nI st)), v10] [] J (zF tw) (fun v J G => v = none ∧ G = zF tw ∧ zMk (zTrip (zNx nc nr fr (fun c => zSign gc gt gn c a m) kd a) (fun c n => zOnB nr fr c n to) nr kd r0 r1 r2 a fm) a I J) := by
    intro st mi wr tx c cm be sy v10 J hF h2 h3 h4 h5 hbe hsy hc hgo
    refine P_aload_n (pc := 238) dX9_make_238 rfl ?_
    refine P_iload (pc := 239) dX9_make_239 rfl ?_
    refine P_iload (pc := 241) dX9_make_241 rfl ?_
    refine P_sel2 (pc := 243) (zb (decide (c = a))) 251 (fun k251_243 => ?_) ?_
    · refine P_icmp_neN (pc := 243) (tgt := 250) dX9_make_243 (by decide) (by omega) (by omega) (fun h243 => ?_) (fun h243 => ?_)
      · refine P_iconst (pc := 250) (x := nI 0) dX9_make_250 (by decide) ?_
        exact k251_243 _ (by first | rw [decide_eq_false (by omega)]; rfl | rw [decide_eq_true (by omega)]; rfl)
      · refine P_iconst (pc := 246) (x := nI 1) dX9_make_246 (by decide) ?_
        refine P_goto (pc := 247) (tgt := 251) dX9_make_247 (by decide) ?_
        exact k251_243 _ (by first | rw [decide_eq_false (by omega)]; rfl | rw [decide_eq_true (by omega)]; rfl)
    · refine P_puti (pc := 251) 9 6 dX9_make_251 fl_X9_61 sh_67 fp_9_6 (by cases (decide (c = a)) <;> rfl) (by cases (decide (c = a)) <;> rfl) ?_
      refine P_ret (pc := 254) dX9_make_254 ?_
      rw [← hgo]
      exact ⟨rfl, rfl, hF.u (by decide), h2, h3, h4, h5, rfl, hbe, hsy⟩
  have loop : ∀ (d st mi wr tx c : Nat) (cm : Option Nat) (be : Nat → Nat) (sy : Nat → Bool) (v10 : Option Value) (J : AI), 31 - st < d → st ≤ 30 → zTf I J → J 67 2 = nI st → J 67 3 = nI mi → J 67 4 = nI wr → J 67 5 = nI tx → (∀ k, k ≤ st → J 68 k = nI (be k)) → (∀ k, k < st → J 69 k = zb (sy k)) → c < 8 → (∀ m, cm = some m → m < 8 ∧ nr (8 * c + m) < 10000) → zGo (zNx nc nr fr (fun c => zSign gc gt gn c a m) kd a) (fun c n => zOnB nr fr c n to) nr kd r0 r1 r2 a (30 - st) st mi wr tx c cm be sy = zTrip (zNx nc nr fr (fun c => zSign gc gt gn c a m) kd a) (fun c n => zOnB nr fr c n to) nr kd r0 r1 r2 a fm → ZP l D zm_X9_make 38 [some (.ref 67), some (.ref 36), some (.ref 70), some (.int (nI kd)), some (.int (nI fm)), some (.int (nI a)), some (.int (nI to)), some (.int (zo (-1) cm)), some (.int (nI c)), some (.int (nI st)), v10] [] J (zF tw) (fun v J G => v = none ∧ G = zF tw ∧ zMk (zTrip (zNx nc nr fr (fun c => zSign gc gt gn c a m) kd a) (fun c n => zOnB nr fr c n to) nr kd r0 r1 r2 a fm) a I J) := by
    intro d
    induction d with
    | zero =>
      intro st mi wr tx c cm be sy v10 J hd
      exact absurd hd (by omega)
    | succ d ih =>
      intro st mi wr tx c cm be sy v10 J hd hst30 hF h2 h3 h4 h5 hbe hsy hc hcm hgo
      refine P_iload (pc := 38) dX9_make_38 rfl ?_
      refine P_bipush (pc := 40) (x := nI 30) dX9_make_40 (by decide) ?_
      refine P_icmp_geN (pc := 42) (tgt := 238) dX9_make_42 (by decide) (by omega) (by omega) (fun h42 => ?_) (fun h42 => ?_)
      · exact fin st mi wr tx c cm be sy _ J hF h2 h3 h4 h5 hbe hsy hc (by rw [show 30 - st = 0 by omega] at hgo; exact hgo)
      · refine P_iload (pc := 45) dX9_make_45 rfl ?_
        refine P_iload (pc := 47) dX9_make_47 rfl ?_
        refine P_icmp_eqN (pc := 49) (tgt := 238) dX9_make_49 (by decide) (by omega) (by omega) (fun h49 => ?_) (fun h49 => ?_)
        · exact fin st mi wr tx c cm be sy _ J hF h2 h3 h4 h5 hbe hsy hc (by rw [zGo_aim (by omega)] at hgo; exact hgo)
        · refine P_aload_n (pc := 52) dX9_make_52 rfl ?_
          refine P_getr (pc := 53) 8 0 dX9_make_53 fl_X9_32 sh_36 fr_8_0 F_36_0 ?_
          refine P_aload_n (pc := 56) dX9_make_56 rfl ?_
          refine P_iload_n (pc := 57) dX9_make_57 rfl ?_
          refine P_iload (pc := 58) dX9_make_58 rfl ?_
          refine P_iload (pc := 60) dX9_make_60 rfl ?_
          refine P_iload (pc := 62) dX9_make_62 rfl ?_
          obtain ⟨_, _, _, k9, rfl, rfl, rfl⟩ := c_choose_36_70 (l := l) (D := D) (tw := tw) (hC.tf hF hs_36) (hS.tf hF hg_70) (kd := kd) (h := c) (a := a) (cm := cm) hn1 hkd hc ha (fun m e => (hcm m e).1)
          refine P_callS (pc := 64) (S := []) (As := [_, _, _, _, _, _]) k9 dX9_make_64 ok_X9_choose ml_X9_38 is_X9_choose ⟨by decide, by decide⟩ (zret_i _) rfl ⟨rfl, by decide⟩ (Nat.le_of_ble_eq_true rfl) ?_
          rcases hx : zNx nc nr fr (fun c => zSign gc gt gn c a m) kd a c cm with _ | n
          · have hgo2 := hgo
            rw [zGo_none hx] at hgo2
            refine P_istore (pc := 67) dX9_make_67 (by decide) rfl ?_
            refine P_iload (pc := 69) dX9_make_69 rfl ?_
            refine P_iconst (pc := 71) (x := (-1)) dX9_make_71 (by decide) ?_
            refine P_icmp_neF (pc := 72) (tgt := 78) dX9_make_72 (by decide) (by decide) ?_
            refine P_goto (pc := 75) (tgt := 238) dX9_make_75 (by decide) ?_
            exact fin st mi wr tx c cm be sy _ J hF h2 h3 h4 h5 hbe hsy hc hgo2
          · have hnok := zNx_ok hC.2.1 hcm (fun p e => zSign_lt (b := 8) (fun j hj => (hS.2.2 j hj).2.2.2) e) hx
            have hst : ∃ f, 30 - st = f + 1 ∧ 30 - (st + 1) = f := ⟨30 - st - 1, by omega, by omega⟩
            obtain ⟨f, hf1, hf2⟩ := hst
            have hgo2 := hgo
            rw [hf1, zGo_some (by omega) hx] at hgo2
            refine P_istore (pc := 67) dX9_make_67 (by decide) rfl ?_
            refine P_iload (pc := 69) dX9_make_69 rfl ?_
            refine P_iconst (pc := 71) (x := (-1)) dX9_make_71 (by decide) ?_
            refine P_icmp_neT (pc := 72) (tgt := 78) dX9_make_72 (by decide) (zne1 (by omega)) ?_
            refine P_iload_n (pc := 78) dX9_make_78 rfl ?_
            refine P_iconst (pc := 79) (x := nI 2) dX9_make_79 (by decide) ?_
            refine P_icmp_neN (pc := 80) (tgt := 106) dX9_make_80 (by decide) (by omega) (by omega) (fun h80 => ?_) (fun h80 => ?_)
            · refine P_aload_n (pc := 106) dX9_make_106 rfl ?_
              refine P_dup (pc := 107) dX9_make_107 rfl ?_
              refine P_geti (pc := 108) 9 3 (x := nI (mi)) dX9_make_108 fl_X9_23 sh_67 fi_9_3 (h3) ?_
              refine P_aload_n (pc := 111) dX9_make_111 rfl ?_
              refine P_getr (pc := 112) 8 0 dX9_make_112 fl_X9_32 sh_36 fr_8_0 F_36_0 ?_
              refine P_getr (pc := 115) 6 4 dX9_make_115 fl_X9_45 sh_37 fr_6_4 F_37_4 ?_
              refine P_iload (pc := 118) dX9_make_118 rfl ?_
              refine P_aald (pc := 120) (c) dX9_make_120 sh_40 (by decide) rfl (by omega) (by decide) (Fr_40 _ (by omega)) ?_
              refine P_iload (pc := 121) dX9_make_121 rfl ?_
              refine P_iald (pc := 123) (n) (x := nI (nr (8 * c + n))) dX9_make_123 (shr_41 _ (by omega)) rfl (by omega) (by decide) (((hC.tf (by repeat (first | exact hF | refine zTf.u ?_ (by decide))) hs_36).2.2.1 _ _ hc hnok.1).trans (congrArg nI (zln_lt hnok.2))) ?_
              refine P_iaddN (pc := 124) dX9_make_124 ?_
              refine P_puti (pc := 125) 9 3 dX9_make_125 fl_X9_23 sh_67 fp_9_3 rfl rfl ?_
              refine P_aload_n (pc := 128) dX9_make_128 rfl ?_
              refine P_getr (pc := 129) 9 1 dX9_make_129 fl_X9_15 sh_67 fr_9_1 F_67_1 ?_
              refine P_iload (pc := 132) dX9_make_132 rfl ?_
              refine P_aload_n (pc := 134) dX9_make_134 rfl ?_
              refine P_getr (pc := 135) 8 0 dX9_make_135 fl_X9_32 sh_36 fr_8_0 F_36_0 ?_
              refine P_iload (pc := 138) dX9_make_138 rfl ?_
              refine P_iload (pc := 140) dX9_make_140 rfl ?_
              refine P_iload (pc := 142) dX9_make_142 rfl ?_
              have hC8 : CSt nc nr fr (zu J 67 3 (nI ((mi) + (nr (8 * c + n))))) 37 41 50 := hC.tf (by repeat (first | exact hF | refine zTf.u ?_ (by decide))) hs_36
              obtain ⟨_, _, _, k8, rfl, rfl, rfl⟩ := c_leadsOn_36 (l := l) (D := D) (tw := tw) hC8 (h := c) (n := n) (a := to) hc hnok.1 hto
              refine P_callV (pc := 144) (S := [_, _]) (As := [_, _, _]) k8 dX9_make_144 ok_X6_leadsOn ml_X9_51 iv_X6_leadsOn ⟨by decide, by decide⟩ (zret_b (zOnB nr fr c n to)) rfl ⟨rfl, by decide⟩ sh_37 ⟨by decide, rfl⟩ (Nat.le_of_ble_eq_true rfl) ?_
              refine P_sel1 (pc := 147) (zb (!zOnB nr fr c n to)) 155 (fun k155_147 => ?_) ?_
              · refine P_if_neB (pc := 147) (tgt := 154) dX9_make_147 (by decide) (fun h147 => ?_) (fun h147 => ?_)
                · refine P_iconst (pc := 154) (x := nI 0) dX9_make_154 (by decide) ?_
                  exact k155_147 _ (by rw [h147]; rfl)
                · refine P_iconst (pc := 150) (x := nI 1) dX9_make_150 (by decide) ?_
                  refine P_goto (pc := 151) (tgt := 155) dX9_make_151 (by decide) ?_
                  exact k155_147 _ (by rw [h147]; rfl)
              · refine P_zast (pc := 155) (st) dX9_make_155 sh_69 rfl (by omega) (by decide) ?_
                refine P_aload_n (pc := 156) dX9_make_156 rfl ?_
                refine P_getr (pc := 157) 9 1 dX9_make_157 fl_X9_15 sh_67 fr_9_1 F_67_1 ?_
                refine P_iload (pc := 160) dX9_make_160 rfl ?_
                refine P_zald (pc := 162) (st) (x := zb (!zOnB nr fr c n to)) dX9_make_162 sh_69 rfl (by omega) (by decide) ((zu_s _ _ _ _).trans (vpb _)) ?_
                refine P_if_eqB (pc := 163) (tgt := 205) dX9_make_163 (by decide) (fun h163 => ?_) (fun h163 => ?_)
                · refine P_iload (pc := 205) dX9_make_205 rfl ?_
                  refine P_istore (pc := 207) dX9_make_207 (by decide) rfl ?_
                  refine P_iload (pc := 209) dX9_make_209 rfl ?_
                  refine P_istore (pc := 211) dX9_make_211 (by decide) rfl ?_
                  refine P_aload_n (pc := 213) dX9_make_213 rfl ?_
                  refine P_iload (pc := 214) dX9_make_214 rfl ?_
                  refine P_iconst (pc := 216) (x := nI 1) dX9_make_216 (by decide) ?_
                  refine P_iaddN (pc := 217) dX9_make_217 ?_
                  refine P_puti (pc := 218) 9 2 dX9_make_218 fl_X9_19 sh_67 fp_9_2 rfl rfl ?_
                  refine P_aload_n (pc := 221) dX9_make_221 rfl ?_
                  refine P_getr (pc := 222) 9 0 dX9_make_222 fl_X9_9 sh_67 fr_9_0 F_67_0 ?_
                  refine P_aload_n (pc := 225) dX9_make_225 rfl ?_
                  refine P_geti (pc := 226) 9 2 (x := nI (st + 1)) dX9_make_226 fl_X9_19 sh_67 fi_9_2 (rfl) ?_
                  refine P_iload (pc := 229) dX9_make_229 rfl ?_
                  refine P_iast (pc := 231) ((st + 1)) dX9_make_231 sh_68 rfl (by omega) (by decide) ?_
                  refine P_iincN (pc := 232) (c := 1) dX9_make_232 rfl (by decide) (by decide) rfl ?_
                  refine P_goto (pc := 235) (tgt := 38) dX9_make_235 (by decide) ?_
                  have hon : zOnB nr fr c n to = true := znf h163
                  refine ih (st + 1) (mi + (nr (8 * c + n) + (if kd = 2 then 1 else 0))) (wr + (if zOnB nr fr c n to = true then 0 else 1)) (tx + (if kd = 2 then r2 else 0) + (if zOnB nr fr c n to = true then 0 else (r0 + (if some n = cm then r1 else 0)))) n (some c) (va_up be (st + 1) n) (va_up sy st (!zOnB nr fr c n to)) (some (.int (nI n))) _ (by omega) (by omega) (by repeat (first | exact hF | refine zTf.u ?_ (by decide))) rfl ?_ ?_ ?_ ?_ ?_ hnok.1 ?_ ?_
                  · refine Eq.trans (b := nI (mi + nr (8 * c + n))) rfl (congrArg nI ?_)
                    rw [if_neg h80]
                    omega
                  · refine Eq.trans (b := J 67 4) rfl (h4.trans (congrArg nI ?_))
                    rw [hon]; rfl
                  · refine Eq.trans (b := J 67 5) rfl (h5.trans (congrArg nI ?_))
                    rw [hon, if_neg h80]; rfl
                  · intro k hk
                    by_cases e : k = st + 1
                    · subst e
                      exact (zu_s _ _ _ _).trans (congrArg nI (va_up_s _ _ _).symm)
                    · rw [zu_n _ _ e, va_up_n _ _ e]
                      exact hbe k (by omega)
                  · intro k hk
                    refine Eq.trans (b := zu J 69 st (vp_nar .boolean (zb (!zOnB nr fr c n to))) 69 k) rfl ?_
                    by_cases e : k = st
                    · subst e
                      rw [zu_s, va_up_s, vpb]
                    · rw [zu_n _ _ e, va_up_n _ _ e]
                      exact hsy k (by omega)
                  · intro m hm
                    cases hm
                    exact ⟨hc, by rw [hsym n c hnok.1 hc]; exact hnok.2⟩
                  · rw [hf2]
                    exact hgo2
                · refine P_aload_n (pc := 166) dX9_make_166 rfl ?_
                  refine P_dup (pc := 167) dX9_make_167 rfl ?_
                  refine P_geti (pc := 168) 9 4 (x := nI (wr)) dX9_make_168 fl_X9_26 sh_67 fi_9_4 (h4) ?_
                  refine P_iconst (pc := 171) (x := nI 1) dX9_make_171 (by decide) ?_
                  refine P_iaddN (pc := 172) dX9_make_172 ?_
                  refine P_puti (pc := 173) 9 4 dX9_make_173 fl_X9_26 sh_67 fp_9_4 rfl rfl ?_
                  refine P_aload_n (pc := 176) dX9_make_176 rfl ?_
                  refine P_dup (pc := 177) dX9_make_177 rfl ?_
                  refine P_geti (pc := 178) 9 5 (x := nI (tx)) dX9_make_178 fl_X9_29 sh_67 fi_9_5 (h5) ?_
                  refine P_aload_n (pc := 181) dX9_make_181 rfl ?_
                  refine P_geti (pc := 182) 8 3 (x := nI (r0)) dX9_make_182 fl_X9_55 sh_36 fi_8_3 ((congrFun (hF 36 (by decide) (by decide) (by decide)) 3).trans hr.1) ?_
                  refine P_iload (pc := 185) dX9_make_185 rfl ?_
                  refine P_iload (pc := 187) dX9_make_187 rfl ?_
                  refine P_sel2 (pc := 189) (nI (if some n = cm then r1 else 0)) 200 (fun k200_189 => ?_) ?_
                  · refine P_icmp_ne (pc := 189) (tgt := 199) dX9_make_189 (by decide) (fun h189 => ?_) (fun h189 => ?_)
                    · refine P_iconst (pc := 199) (x := nI 0) dX9_make_199 (by decide) ?_
                      exact k200_189 _ (by first | rw [if_neg (fun z => h189 ((zo_eq1 (by omega) (fun m e => by have := hcm m e; omega)).mpr z))] | rw [if_pos ((zo_eq1 (by omega) (fun m e => by have := hcm m e; omega)).mp h189)] | rw [if_pos ((zo_eq1 (by omega) (fun m e => by have := hcm m e; omega)).mp (Classical.byContradiction h189))])
                    · refine P_aload_n (pc := 192) dX9_make_192 rfl ?_
                      refine P_geti (pc := 193) 8 4 (x := nI (r1)) dX9_make_193 fl_X9_58 sh_36 fi_8_4 ((congrFun (hF 36 (by decide) (by decide) (by decide)) 4).trans hr.2.1) ?_
                      refine P_goto (pc := 196) (tgt := 200) dX9_make_196 (by decide) ?_
                      exact k200_189 _ (by first | rw [if_neg (fun z => h189 ((zo_eq1 (by omega) (fun m e => by have := hcm m e; omega)).mpr z))] | rw [if_pos ((zo_eq1 (by omega) (fun m e => by have := hcm m e; omega)).mp h189)] | rw [if_pos ((zo_eq1 (by omega) (fun m e => by have := hcm m e; omega)).mp (Classical.byContradiction h189))])
                  · refine P_iaddN (pc := 200) dX9_make_200 ?_
                    refine P_iaddN (pc := 201) dX9_make_201 ?_
                    refine P_puti (pc := 202) 9 5 dX9_make_202 fl_X9_29 sh_67 fp_9_5 rfl rfl ?_
                    refine P_iload (pc := 205) dX9_make_205 rfl ?_
                    refine P_istore (pc := 207) dX9_make_207 (by decide) rfl ?_
                    refine P_iload (pc := 209) dX9_make_209 rfl ?_
                    refine P_istore (pc := 211) dX9_make_211 (by decide) rfl ?_
                    refine P_aload_n (pc := 213) dX9_make_213 rfl ?_
                    refine P_iload (pc := 214) dX9_make_214 rfl ?_
                    refine P_iconst (pc := 216) (x := nI 1) dX9_make_216 (by decide) ?_
                    refine P_iaddN (pc := 217) dX9_make_217 ?_
                    refine P_puti (pc := 218) 9 2 dX9_make_218 fl_X9_19 sh_67 fp_9_2 rfl rfl ?_
                    refine P_aload_n (pc := 221) dX9_make_221 rfl ?_
                    refine P_getr (pc := 222) 9 0 dX9_make_222 fl_X9_9 sh_67 fr_9_0 F_67_0 ?_
                    refine P_aload_n (pc := 225) dX9_make_225 rfl ?_
                    refine P_geti (pc := 226) 9 2 (x := nI (st + 1)) dX9_make_226 fl_X9_19 sh_67 fi_9_2 (rfl) ?_
                    refine P_iload (pc := 229) dX9_make_229 rfl ?_
                    refine P_iast (pc := 231) ((st + 1)) dX9_make_231 sh_68 rfl (by omega) (by decide) ?_
                    refine P_iincN (pc := 232) (c := 1) dX9_make_232 rfl (by decide) (by decide) rfl ?_
                    refine P_goto (pc := 235) (tgt := 38) dX9_make_235 (by decide) ?_
                    have hon : zOnB nr fr c n to = false := znt h163
                    refine ih (st + 1) (mi + (nr (8 * c + n) + (if kd = 2 then 1 else 0))) (wr + (if zOnB nr fr c n to = true then 0 else 1)) (tx + (if kd = 2 then r2 else 0) + (if zOnB nr fr c n to = true then 0 else (r0 + (if some n = cm then r1 else 0)))) n (some c) (va_up be (st + 1) n) (va_up sy st (!zOnB nr fr c n to)) (some (.int (nI n))) _ (by omega) (by omega) (by repeat (first | exact hF | refine zTf.u ?_ (by decide))) rfl ?_ ?_ ?_ ?_ ?_ hnok.1 ?_ ?_
                    · refine Eq.trans (b := nI (mi + nr (8 * c + n))) rfl (congrArg nI ?_)
                      rw [if_neg h80]
                      omega
                    · refine Eq.trans (b := nI (wr + 1)) rfl (congrArg nI ?_)
                      rw [hon]; rfl
                    · refine Eq.trans (b := nI (tx + (r0 + (if some n = cm then r1 else 0)))) rfl (congrArg nI ?_)
                      rw [hon, if_neg h80]; rfl
                    · intro k hk
                      by_cases e : k = st + 1
                      · subst e
                        exact (zu_s _ _ _ _).trans (congrArg nI (va_up_s _ _ _).symm)
                      · rw [zu_n _ _ e, va_up_n _ _ e]
                        exact hbe k (by omega)
                    · intro k hk
                      refine Eq.trans (b := zu J 69 st (vp_nar .boolean (zb (!zOnB nr fr c n to))) 69 k) rfl ?_
                      by_cases e : k = st
                      · subst e
                        rw [zu_s, va_up_s, vpb]
                      · rw [zu_n _ _ e, va_up_n _ _ e]
                        exact hsy k (by omega)
                    · intro m hm
                      cases hm
                      exact ⟨hc, by rw [hsym n c hnok.1 hc]; exact hnok.2⟩
                    · rw [hf2]
                      exact hgo2
            · refine P_aload_n (pc := 83) dX9_make_83 rfl ?_
              refine P_dup (pc := 84) dX9_make_84 rfl ?_
              refine P_geti (pc := 85) 9 3 (x := nI (mi)) dX9_make_85 fl_X9_23 sh_67 fi_9_3 (h3) ?_
              refine P_iconst (pc := 88) (x := nI 1) dX9_make_88 (by decide) ?_
              refine P_iaddN (pc := 89) dX9_make_89 ?_
              refine P_puti (pc := 90) 9 3 dX9_make_90 fl_X9_23 sh_67 fp_9_3 rfl rfl ?_
              refine P_aload_n (pc := 93) dX9_make_93 rfl ?_
              refine P_dup (pc := 94) dX9_make_94 rfl ?_
              refine P_geti (pc := 95) 9 5 (x := nI (tx)) dX9_make_95 fl_X9_29 sh_67 fi_9_5 (h5) ?_
              refine P_aload_n (pc := 98) dX9_make_98 rfl ?_
              refine P_geti (pc := 99) 8 5 (x := nI (r2)) dX9_make_99 fl_X9_42 sh_36 fi_8_5 ((congrFun (hF 36 (by decide) (by decide) (by decide)) 5).trans hr.2.2) ?_
              refine P_iaddN (pc := 102) dX9_make_102 ?_
              refine P_puti (pc := 103) 9 5 dX9_make_103 fl_X9_29 sh_67 fp_9_5 rfl rfl ?_
              refine P_aload_n (pc := 106) dX9_make_106 rfl ?_
              refine P_dup (pc := 107) dX9_make_107 rfl ?_
              refine P_geti (pc := 108) 9 3 (x := nI (mi + 1)) dX9_make_108 fl_X9_23 sh_67 fi_9_3 (rfl) ?_
              refine P_aload_n (pc := 111) dX9_make_111 rfl ?_
              refine P_getr (pc := 112) 8 0 dX9_make_112 fl_X9_32 sh_36 fr_8_0 F_36_0 ?_
              refine P_getr (pc := 115) 6 4 dX9_make_115 fl_X9_45 sh_37 fr_6_4 F_37_4 ?_
              refine P_iload (pc := 118) dX9_make_118 rfl ?_
              refine P_aald (pc := 120) (c) dX9_make_120 sh_40 (by decide) rfl (by omega) (by decide) (Fr_40 _ (by omega)) ?_
              refine P_iload (pc := 121) dX9_make_121 rfl ?_
              refine P_iald (pc := 123) (n) (x := nI (nr (8 * c + n))) dX9_make_123 (shr_41 _ (by omega)) rfl (by omega) (by decide) (((hC.tf (by repeat (first | exact hF | refine zTf.u ?_ (by decide))) hs_36).2.2.1 _ _ hc hnok.1).trans (congrArg nI (zln_lt hnok.2))) ?_
              refine P_iaddN (pc := 124) dX9_make_124 ?_
              refine P_puti (pc := 125) 9 3 dX9_make_125 fl_X9_23 sh_67 fp_9_3 rfl rfl ?_
              refine P_aload_n (pc := 128) dX9_make_128 rfl ?_
              refine P_getr (pc := 129) 9 1 dX9_make_129 fl_X9_15 sh_67 fr_9_1 F_67_1 ?_
              refine P_iload (pc := 132) dX9_make_132 rfl ?_
              refine P_aload_n (pc := 134) dX9_make_134 rfl ?_
              refine P_getr (pc := 135) 8 0 dX9_make_135 fl_X9_32 sh_36 fr_8_0 F_36_0 ?_
              refine P_iload (pc := 138) dX9_make_138 rfl ?_
              refine P_iload (pc := 140) dX9_make_140 rfl ?_
              refine P_iload (pc := 142) dX9_make_142 rfl ?_
              have hC8 : CSt nc nr fr (zu (zu (zu J 67 3 (nI ((mi) + 1))) 67 5 (nI ((tx) + (r2)))) 67 3 (nI ((mi + 1) + (nr (8 * c + n))))) 37 41 50 := hC.tf (by repeat (first | exact hF | refine zTf.u ?_ (by decide))) hs_36
              obtain ⟨_, _, _, k8, rfl, rfl, rfl⟩ := c_leadsOn_36 (l := l) (D := D) (tw := tw) hC8 (h := c) (n := n) (a := to) hc hnok.1 hto
              refine P_callV (pc := 144) (S := [_, _]) (As := [_, _, _]) k8 dX9_make_144 ok_X6_leadsOn ml_X9_51 iv_X6_leadsOn ⟨by decide, by decide⟩ (zret_b (zOnB nr fr c n to)) rfl ⟨rfl, by decide⟩ sh_37 ⟨by decide, rfl⟩ (Nat.le_of_ble_eq_true rfl) ?_
              refine P_sel1 (pc := 147) (zb (!zOnB nr fr c n to)) 155 (fun k155_147 => ?_) ?_
              · refine P_if_neB (pc := 147) (tgt := 154) dX9_make_147 (by decide) (fun h147 => ?_) (fun h147 => ?_)
                · refine P_iconst (pc := 154) (x := nI 0) dX9_make_154 (by decide) ?_
                  exact k155_147 _ (by rw [h147]; rfl)
                · refine P_iconst (pc := 150) (x := nI 1) dX9_make_150 (by decide) ?_
                  refine P_goto (pc := 151) (tgt := 155) dX9_make_151 (by decide) ?_
                  exact k155_147 _ (by rw [h147]; rfl)
              · refine P_zast (pc := 155) (st) dX9_make_155 sh_69 rfl (by omega) (by decide) ?_
                refine P_aload_n (pc := 156) dX9_make_156 rfl ?_
                refine P_getr (pc := 157) 9 1 dX9_make_157 fl_X9_15 sh_67 fr_9_1 F_67_1 ?_
                refine P_iload (pc := 160) dX9_make_160 rfl ?_
                refine P_zald (pc := 162) (st) (x := zb (!zOnB nr fr c n to)) dX9_make_162 sh_69 rfl (by omega) (by decide) ((zu_s _ _ _ _).trans (vpb _)) ?_
                refine P_if_eqB (pc := 163) (tgt := 205) dX9_make_163 (by decide) (fun h163 => ?_) (fun h163 => ?_)
                · refine P_iload (pc := 205) dX9_make_205 rfl ?_
                  refine P_istore (pc := 207) dX9_make_207 (by decide) rfl ?_
                  refine P_iload (pc := 209) dX9_make_209 rfl ?_
                  refine P_istore (pc := 211) dX9_make_211 (by decide) rfl ?_
                  refine P_aload_n (pc := 213) dX9_make_213 rfl ?_
                  refine P_iload (pc := 214) dX9_make_214 rfl ?_
                  refine P_iconst (pc := 216) (x := nI 1) dX9_make_216 (by decide) ?_
                  refine P_iaddN (pc := 217) dX9_make_217 ?_
                  refine P_puti (pc := 218) 9 2 dX9_make_218 fl_X9_19 sh_67 fp_9_2 rfl rfl ?_
                  refine P_aload_n (pc := 221) dX9_make_221 rfl ?_
                  refine P_getr (pc := 222) 9 0 dX9_make_222 fl_X9_9 sh_67 fr_9_0 F_67_0 ?_
                  refine P_aload_n (pc := 225) dX9_make_225 rfl ?_
                  refine P_geti (pc := 226) 9 2 (x := nI (st + 1)) dX9_make_226 fl_X9_19 sh_67 fi_9_2 (rfl) ?_
                  refine P_iload (pc := 229) dX9_make_229 rfl ?_
                  refine P_iast (pc := 231) ((st + 1)) dX9_make_231 sh_68 rfl (by omega) (by decide) ?_
                  refine P_iincN (pc := 232) (c := 1) dX9_make_232 rfl (by decide) (by decide) rfl ?_
                  refine P_goto (pc := 235) (tgt := 38) dX9_make_235 (by decide) ?_
                  have hon : zOnB nr fr c n to = true := znf h163
                  refine ih (st + 1) (mi + (nr (8 * c + n) + (if kd = 2 then 1 else 0))) (wr + (if zOnB nr fr c n to = true then 0 else 1)) (tx + (if kd = 2 then r2 else 0) + (if zOnB nr fr c n to = true then 0 else (r0 + (if some n = cm then r1 else 0)))) n (some c) (va_up be (st + 1) n) (va_up sy st (!zOnB nr fr c n to)) (some (.int (nI n))) _ (by omega) (by omega) (by repeat (first | exact hF | refine zTf.u ?_ (by decide))) rfl ?_ ?_ ?_ ?_ ?_ hnok.1 ?_ ?_
                  · refine Eq.trans (b := nI (mi + 1 + nr (8 * c + n))) rfl (congrArg nI ?_)
                    rw [if_pos h80]
                    omega
                  · refine Eq.trans (b := J 67 4) rfl (h4.trans (congrArg nI ?_))
                    rw [hon]; rfl
                  · refine Eq.trans (b := nI (tx + r2)) rfl (congrArg nI ?_)
                    rw [hon, if_pos h80]; rfl
                  · intro k hk
                    by_cases e : k = st + 1
                    · subst e
                      exact (zu_s _ _ _ _).trans (congrArg nI (va_up_s _ _ _).symm)
                    · rw [zu_n _ _ e, va_up_n _ _ e]
                      exact hbe k (by omega)
                  · intro k hk
                    refine Eq.trans (b := zu J 69 st (vp_nar .boolean (zb (!zOnB nr fr c n to))) 69 k) rfl ?_
                    by_cases e : k = st
                    · subst e
                      rw [zu_s, va_up_s, vpb]
                    · rw [zu_n _ _ e, va_up_n _ _ e]
                      exact hsy k (by omega)
                  · intro m hm
                    cases hm
                    exact ⟨hc, by rw [hsym n c hnok.1 hc]; exact hnok.2⟩
                  · rw [hf2]
                    exact hgo2
                · refine P_aload_n (pc := 166) dX9_make_166 rfl ?_
                  refine P_dup (pc := 167) dX9_make_167 rfl ?_
                  refine P_geti (pc := 168) 9 4 (x := nI (wr)) dX9_make_168 fl_X9_26 sh_67 fi_9_4 (h4) ?_
                  refine P_iconst (pc := 171) (x := nI 1) dX9_make_171 (by decide) ?_
                  refine P_iaddN (pc := 172) dX9_make_172 ?_
                  refine P_puti (pc := 173) 9 4 dX9_make_173 fl_X9_26 sh_67 fp_9_4 rfl rfl ?_
                  refine P_aload_n (pc := 176) dX9_make_176 rfl ?_
                  refine P_dup (pc := 177) dX9_make_177 rfl ?_
                  refine P_geti (pc := 178) 9 5 (x := nI (tx + r2)) dX9_make_178 fl_X9_29 sh_67 fi_9_5 (rfl) ?_
                  refine P_aload_n (pc := 181) dX9_make_181 rfl ?_
                  refine P_geti (pc := 182) 8 3 (x := nI (r0)) dX9_make_182 fl_X9_55 sh_36 fi_8_3 ((congrFun (hF 36 (by decide) (by decide) (by decide)) 3).trans hr.1) ?_
                  refine P_iload (pc := 185) dX9_make_185 rfl ?_
                  refine P_iload (pc := 187) dX9_make_187 rfl ?_
                  refine P_sel2 (pc := 189) (nI (if some n = cm then r1 else 0)) 200 (fun k200_189 => ?_) ?_
                  · refine P_icmp_ne (pc := 189) (tgt := 199) dX9_make_189 (by decide) (fun h189 => ?_) (fun h189 => ?_)
                    · refine P_iconst (pc := 199) (x := nI 0) dX9_make_199 (by decide) ?_
                      exact k200_189 _ (by first | rw [if_neg (fun z => h189 ((zo_eq1 (by omega) (fun m e => by have := hcm m e; omega)).mpr z))] | rw [if_pos ((zo_eq1 (by omega) (fun m e => by have := hcm m e; omega)).mp h189)] | rw [if_pos ((zo_eq1 (by omega) (fun m e => by have := hcm m e; omega)).mp (Classical.byContradiction h189))])
                    · refine P_aload_n (pc := 192) dX9_make_192 rfl ?_
                      refine P_geti (pc := 193) 8 4 (x := nI (r1)) dX9_make_193 fl_X9_58 sh_36 fi_8_4 ((congrFun (hF 36 (by decide) (by decide) (by decide)) 4).trans hr.2.1) ?_
                      refine P_goto (pc := 196) (tgt := 200) dX9_make_196 (by decide) ?_
                      exact k200_189 _ (by first | rw [if_neg (fun z => h189 ((zo_eq1 (by omega) (fun m e => by have := hcm m e; omega)).mpr z))] | rw [if_pos ((zo_eq1 (by omega) (fun m e => by have := hcm m e; omega)).mp h189)] | rw [if_pos ((zo_eq1 (by omega) (fun m e => by have := hcm m e; omega)).mp (Classical.byContradiction h189))])
                  · refine P_iaddN (pc := 200) dX9_make_200 ?_
                    refine P_iaddN (pc := 201) dX9_make_201 ?_
                    refine P_puti (pc := 202) 9 5 dX9_make_202 fl_X9_29 sh_67 fp_9_5 rfl rfl ?_
                    refine P_iload (pc := 205) dX9_make_205 rfl ?_
                    refine P_istore (pc := 207) dX9_make_207 (by decide) rfl ?_
                    refine P_iload (pc := 209) dX9_make_209 rfl ?_
                    refine P_istore (pc := 211) dX9_make_211 (by decide) rfl ?_
                    refine P_aload_n (pc := 213) dX9_make_213 rfl ?_
                    refine P_iload (pc := 214) dX9_make_214 rfl ?_
                    refine P_iconst (pc := 216) (x := nI 1) dX9_make_216 (by decide) ?_
                    refine P_iaddN (pc := 217) dX9_make_217 ?_
                    refine P_puti (pc := 218) 9 2 dX9_make_218 fl_X9_19 sh_67 fp_9_2 rfl rfl ?_
                    refine P_aload_n (pc := 221) dX9_make_221 rfl ?_
                    refine P_getr (pc := 222) 9 0 dX9_make_222 fl_X9_9 sh_67 fr_9_0 F_67_0 ?_
                    refine P_aload_n (pc := 225) dX9_make_225 rfl ?_
                    refine P_geti (pc := 226) 9 2 (x := nI (st + 1)) dX9_make_226 fl_X9_19 sh_67 fi_9_2 (rfl) ?_
                    refine P_iload (pc := 229) dX9_make_229 rfl ?_
                    refine P_iast (pc := 231) ((st + 1)) dX9_make_231 sh_68 rfl (by omega) (by decide) ?_
                    refine P_iincN (pc := 232) (c := 1) dX9_make_232 rfl (by decide) (by decide) rfl ?_
                    refine P_goto (pc := 235) (tgt := 38) dX9_make_235 (by decide) ?_
                    have hon : zOnB nr fr c n to = false := znt h163
                    refine ih (st + 1) (mi + (nr (8 * c + n) + (if kd = 2 then 1 else 0))) (wr + (if zOnB nr fr c n to = true then 0 else 1)) (tx + (if kd = 2 then r2 else 0) + (if zOnB nr fr c n to = true then 0 else (r0 + (if some n = cm then r1 else 0)))) n (some c) (va_up be (st + 1) n) (va_up sy st (!zOnB nr fr c n to)) (some (.int (nI n))) _ (by omega) (by omega) (by repeat (first | exact hF | refine zTf.u ?_ (by decide))) rfl ?_ ?_ ?_ ?_ ?_ hnok.1 ?_ ?_
                    · refine Eq.trans (b := nI (mi + 1 + nr (8 * c + n))) rfl (congrArg nI ?_)
                      rw [if_pos h80]
                      omega
                    · refine Eq.trans (b := nI (wr + 1)) rfl (congrArg nI ?_)
                      rw [hon]; rfl
                    · refine Eq.trans (b := nI (tx + r2 + (r0 + (if some n = cm then r1 else 0)))) rfl (congrArg nI ?_)
                      rw [hon, if_pos h80]; rfl
                    · intro k hk
                      by_cases e : k = st + 1
                      · subst e
                        exact (zu_s _ _ _ _).trans (congrArg nI (va_up_s _ _ _).symm)
                      · rw [zu_n _ _ e, va_up_n _ _ e]
                        exact hbe k (by omega)
                    · intro k hk
                      refine Eq.trans (b := zu J 69 st (vp_nar .boolean (zb (!zOnB nr fr c n to))) 69 k) rfl ?_
                      by_cases e : k = st
                      · subst e
                        rw [zu_s, va_up_s, vpb]
                      · rw [zu_n _ _ e, va_up_n _ _ e]
                        exact hsy k (by omega)
                    · intro m hm
                      cases hm
                      exact ⟨hc, by rw [hsym n c hnok.1 hc]; exact hnok.2⟩
                    · rw [hf2]
                      exact hgo2
  show ZP _ _ _ _ [some _, some _, some _, some _, some _, some _, some _, none, none, none, none] _ _ _ _
  refine P_aload_n (pc := 0) dX9_make_0 rfl ?_
  refine P_iconst (pc := 1) (x := nI 0) dX9_make_1 (by decide) ?_
  refine P_puti (pc := 2) 9 2 dX9_make_2 fl_X9_19 sh_67 fp_9_2 rfl rfl ?_
  refine P_aload_n (pc := 5) dX9_make_5 rfl ?_
  refine P_iconst (pc := 6) (x := nI 0) dX9_make_6 (by decide) ?_
  refine P_puti (pc := 7) 9 3 dX9_make_7 fl_X9_23 sh_67 fp_9_3 rfl rfl ?_
  refine P_aload_n (pc := 10) dX9_make_10 rfl ?_
  refine P_iconst (pc := 11) (x := nI 0) dX9_make_11 (by decide) ?_
  refine P_puti (pc := 12) 9 4 dX9_make_12 fl_X9_26 sh_67 fp_9_4 rfl rfl ?_
  refine P_aload_n (pc := 15) dX9_make_15 rfl ?_
  refine P_iconst (pc := 16) (x := nI 0) dX9_make_16 (by decide) ?_
  refine P_puti (pc := 17) 9 5 dX9_make_17 fl_X9_29 sh_67 fp_9_5 rfl rfl ?_
  refine P_aload_n (pc := 20) dX9_make_20 rfl ?_
  refine P_getr (pc := 21) 9 0 dX9_make_21 fl_X9_9 sh_67 fr_9_0 F_67_0 ?_
  refine P_iconst (pc := 24) (x := nI 0) dX9_make_24 (by decide) ?_
  refine P_iload (pc := 25) dX9_make_25 rfl ?_
  refine P_iast (pc := 27) (0) dX9_make_27 sh_68 rfl (by omega) (by decide) ?_
  refine P_iconst (pc := 28) (x := (-1)) dX9_make_28 (by decide) ?_
  refine P_istore (pc := 29) dX9_make_29 (by decide) rfl ?_
  refine P_iload (pc := 31) dX9_make_31 rfl ?_
  refine P_istore (pc := 33) dX9_make_33 (by decide) rfl ?_
  refine P_iconst (pc := 35) (x := nI 0) dX9_make_35 (by decide) ?_
  refine P_istore (pc := 36) dX9_make_36 (by decide) rfl ?_
  refine loop 32 0 0 0 0 fm none (fun _ => fm) (fun _ => false) none _ (by omega) (by omega) (((((zTf.rf.u (by decide)).u (by decide)).u (by decide)).u (by decide)).u (by decide)) rfl rfl rfl rfl ?_ ?_ hfm ?_ rfl
  · intro k hk
    have : k = 0 := by omega
    subst this
    rfl
  · intro k hk
    omega
  · intro m hm
    cases hm
