set_option maxRecDepth 20000 in
theorem c_mean {l : Launch} {D : va_G} {tw : Nat} {I : AI} {s : Nat → Nat → Nat} (hA : RefA s I) (hT : RefT s) (hP : RefP s) (hK : RefK s 0) (hg8 : s 122 0 ≤ 8) {x0 y0 z0 : Int32} : ZP l D zm_X12_mean 0 (zent 12 [.ref 109, .int x0, .int y0, .int z0]) [] I (zF tw) (fun v J G => v = some (aMean s x0 y0 z0) ∧ G = zF tw ∧ ∃ g, zFL s I J g) := by
  have hR := hA.1
  have hP0 := hP.1
  have hnc := hT.2.1
  show ZP _ _ _ _ [some _, some _, some _, some _, none, none, none, none, none, none, none, none] _ _ _ _
  refine P_iload_n (pc := 0) dX12_mean_0 rfl ?_
  refine P_iconst (pc := 1) (x := nI 0) dX12_mean_1 (by decide) ?_
  refine P_iconst (pc := 2) (x := nI 5) dX12_mean_2 (by decide) ?_
  obtain ⟨_, _, _, k1, rfl, rfl, rfl⟩ := c_inN (l := l) (D := D) (tw := tw) (x := x0) (m := 5) (by omega)
  refine P_callS (pc := 3) (S := []) (As := [_, _, _]) k1 dX12_mean_3 ok_X12_in ml_X12_94 is_X12_in ⟨by decide, by decide⟩ (zret_b (zix x0 (5 + 1))) rfl ⟨rfl, by decide⟩ (Nat.le_of_ble_eq_true rfl) ?_
  refine P_if_eqB (pc := 6) (tgt := 28) dX12_mean_6 (by decide) (fun h6 => ?_) (fun h6 => ?_)
  · refine P_iconst (pc := 28) (x := (-1)) dX12_mean_28 (by decide) ?_
    exact P_iret (pc := 29) dX12_mean_29 (⟨by unfold aMean; rw [if_neg (by intro z; simp_all)], rfl, _, zFL.rf hR⟩)
  · obtain ⟨n, hl_n, rfl⟩ := zix_t h6 (by omega)
    refine P_iload_n (pc := 9) dX12_mean_9 rfl ?_
    refine P_iconst (pc := 10) (x := nI 0) dX12_mean_10 (by decide) ?_
    refine P_bipush (pc := 11) (x := nI 10) dX12_mean_11 (by decide) ?_
    obtain ⟨_, _, _, k2, rfl, rfl, rfl⟩ := c_inN (l := l) (D := D) (tw := tw) (x := y0) (m := 10) (by omega)
    refine P_callS (pc := 13) (S := []) (As := [_, _, _]) k2 dX12_mean_13 ok_X12_in ml_X12_94 is_X12_in ⟨by decide, by decide⟩ (zret_b (zix y0 (10 + 1))) rfl ⟨rfl, by decide⟩ (Nat.le_of_ble_eq_true rfl) ?_
    refine P_if_eqB (pc := 16) (tgt := 28) dX12_mean_16 (by decide) (fun h16 => ?_) (fun h16 => ?_)
    · refine P_iconst (pc := 28) (x := (-1)) dX12_mean_28 (by decide) ?_
      exact P_iret (pc := 29) dX12_mean_29 (⟨by unfold aMean; rw [if_neg (by intro z; simp_all)], rfl, _, zFL.rf hR⟩)
    · obtain ⟨x, hl_x, rfl⟩ := zix_t h16 (by omega)
      refine P_iload_n (pc := 19) dX12_mean_19 rfl ?_
      refine P_iconst (pc := 20) (x := nI 0) dX12_mean_20 (by decide) ?_
      refine P_iconst (pc := 21) (x := nI 1) dX12_mean_21 (by decide) ?_
      obtain ⟨_, _, _, k3, rfl, rfl, rfl⟩ := c_inN (l := l) (D := D) (tw := tw) (x := z0) (m := 1) (by omega)
      refine P_callS (pc := 22) (S := []) (As := [_, _, _]) k3 dX12_mean_22 ok_X12_in ml_X12_94 is_X12_in ⟨by decide, by decide⟩ (zret_b (zix z0 (1 + 1))) rfl ⟨rfl, by decide⟩ (Nat.le_of_ble_eq_true rfl) ?_
      refine P_if_neB (pc := 25) (tgt := 30) dX12_mean_25 (by decide) (fun h25 => ?_) (fun h25 => ?_)
      · obtain ⟨j, hl_j, rfl⟩ := zix_t h25 (by omega)
        refine P_iload_n (pc := 30) dX12_mean_30 rfl ?_
        refine P_aload_n (pc := 31) dX12_mean_31 rfl ?_
        refine P_getr (pc := 32) 12 17 dX12_mean_32 fl_X12_47 sh_109 fr_12_17 F_109_17 ?_
        refine P_iconst (pc := 35) (x := nI 0) dX12_mean_35 (by decide) ?_
        refine P_iald (pc := 36) (0) (x := nI (s 122 0)) dX12_mean_36 sh_122 rfl (by omega) (by decide) (hR 122 _ rfl) ?_
        refine P_sel2 (pc := 37) (nI (min n (s 122 0))) 50 (fun k50_37 => ?_) ?_
        · refine P_icmp_geN (pc := 37) (tgt := 44) dX12_mean_37 (by decide) (by omega) (by omega) (fun h37 => ?_) (fun h37 => ?_)
          · refine P_aload_n (pc := 44) dX12_mean_44 rfl ?_
            refine P_getr (pc := 45) 12 17 dX12_mean_45 fl_X12_47 sh_109 fr_12_17 F_109_17 ?_
            refine P_iconst (pc := 48) (x := nI 0) dX12_mean_48 (by decide) ?_
            refine P_iald (pc := 49) (0) (x := nI (s 122 0)) dX12_mean_49 sh_122 rfl (by omega) (by decide) (hR 122 _ rfl) ?_
            exact k50_37 _ (by rw [Nat.min_eq_right (by omega)])
          · refine P_iload_n (pc := 40) dX12_mean_40 rfl ?_
            refine P_goto (pc := 41) (tgt := 50) dX12_mean_41 (by decide) ?_
            exact k50_37 _ (by rw [Nat.min_eq_left (by omega)])
        · obtain ⟨m, hm⟩ : ∃ m, m = min n (s 122 0) := ⟨_, rfl⟩
          rw [← hm]
          have hm5 : m ≤ 5 := by omega
          refine P_istore (pc := 50) dX12_mean_50 (by decide) rfl ?_
          refine P_iconst (pc := 52) (x := nI 0) dX12_mean_52 (by decide) ?_
          refine P_istore (pc := 53) dX12_mean_53 (by decide) rfl ?_
          refine P_iconst (pc := 55) (x := nI 1) dX12_mean_55 (by decide) ?_
          refine P_istore (pc := 56) dX12_mean_56 (by decide) rfl ?_
          refine P_iconst (pc := 58) (x := nI 0) dX12_mean_58 (by decide) ?_
          refine P_istore (pc := 59) dX12_mean_59 (by decide) rfl ?_
          obtain ⟨N2, hN⟩ : ∃ N2, 2 ^ m = N2 := ⟨_, rfl⟩
          obtain ⟨UP, hUP⟩ : ∃ UP, UP = zUp s m x N2 := ⟨_, rfl⟩
          obtain ⟨DN, hDN⟩ : ∃ DN, DN = 10 ^ m := ⟨_, rfl⟩
          have hp10 := p10 hm5
          rw [← hDN, hN] at hp10
          have hub : UP ≤ 3240 * DN := by rw [hUP, hDN, ← hN]; exact zUp_le hT hP hK hg8 (by omega) hm5 (by omega)
          have lg : ∀ (eg : Nat) (a b : Nat) (v9 : Option Value) (J : AI) (g : Nat → Nat), b < eg → Nat.gcd a b = Nat.gcd UP DN → a < 2 ^ 31 → b < 2 ^ 31 → zFL s I J g → ∀ (v10 v11 : Option Value), ZP l D zm_X12_mean 250 [some (.ref 109), some (.int (nI n)), some (.int (nI x)), some (.int (nI j)), some (.int (nI m)), some (.int (nI UP)), some (.int (nI DN)), some (.int (nI a)), some (.int (nI b)), v9, v10, v11] [] J (zF tw) (fun v J G => v = some (aMean s (nI n) (nI x) (nI j)) ∧ G = zF tw ∧ ∃ g, zFL s I J g) := by
            intro eg
            induction eg with
            | zero =>
              intro a b v9 J g heg
              exact absurd heg (by omega)
            | succ eg ihg =>
              intro a b v9 J g hdg hgc ha31 hb31 hF v10 v11
              refine P_iload (pc := 250) dX12_mean_250 rfl ?_
              refine P_if_eqN (pc := 252) (tgt := 273) dX12_mean_252 (by decide) (by omega) (fun h252 => ?_) (fun h252 => ?_)
              · have hb0 : b = 0 := by omega
                subst hb0
                rw [Nat.gcd_zero_right] at hgc
                have ha0 : 0 < a := by rw [hgc]; exact Nat.gcd_pos_of_pos_right _ (by omega)
                refine P_iload_n (pc := 273) dX12_mean_273 rfl ?_
                refine P_if_neN (pc := 274) (tgt := 285) dX12_mean_274 (by decide) (by omega) (fun h274 => ?_) (fun h274 => ?_)
                · refine P_iload (pc := 285) dX12_mean_285 rfl ?_
                  refine P_iload (pc := 287) dX12_mean_287 rfl ?_
                  refine P_idivN (pc := 289) dX12_mean_289 (by omega) (by omega) (by omega) ?_
                  exact P_iret (pc := 290) dX12_mean_290 (⟨by unfold aMean; rw [if_pos ⟨h6, h16, h25⟩, nI_clamp (by omega), nI_clamp (by omega), nI_clamp (by omega), ← hm, hN, ← hUP, ← hDN, ← hgc]; first | rw [if_pos (by omega)] | rw [if_neg (by omega)], rfl, g, hF⟩)
                · refine P_iload (pc := 277) dX12_mean_277 rfl ?_
                  refine P_iload (pc := 279) dX12_mean_279 rfl ?_
                  refine P_idivN (pc := 281) dX12_mean_281 (by omega) (by omega) (by omega) ?_
                  refine P_goto (pc := 282) (tgt := 290) dX12_mean_282 (by decide) ?_
                  exact P_iret (pc := 290) dX12_mean_290 (⟨by unfold aMean; rw [if_pos ⟨h6, h16, h25⟩, nI_clamp (by omega), nI_clamp (by omega), nI_clamp (by omega), ← hm, hN, ← hUP, ← hDN, ← hgc]; first | rw [if_pos (by omega)] | rw [if_neg (by omega)], rfl, g, hF⟩)
              · refine P_iload (pc := 255) dX12_mean_255 rfl ?_
                refine P_iload (pc := 257) dX12_mean_257 rfl ?_
                refine P_iremN (pc := 259) dX12_mean_259 (by omega) (by omega) (by omega) ?_
                refine P_istore (pc := 260) dX12_mean_260 (by decide) rfl ?_
                refine P_iload (pc := 262) dX12_mean_262 rfl ?_
                refine P_istore (pc := 264) dX12_mean_264 (by decide) rfl ?_
                refine P_iload (pc := 266) dX12_mean_266 rfl ?_
                refine P_istore (pc := 268) dX12_mean_268 (by decide) rfl ?_
                refine P_goto (pc := 270) (tgt := 250) dX12_mean_270 (by decide) ?_
                exact ihg b (a % b) _ J g (by have := Nat.mod_lt a (show 0 < b by omega); omega) (by rw [← hgc]; exact (gcd_step a b).symm) (by omega) (by have := Nat.mod_lt a (show 0 < b by omega); omega) hF v10 v11
          have lo : ∀ (d : Nat) (q : Nat) (J : AI) (g : Nat → Nat) (v8 v9 v10 v11 : Option Value) (U : Nat), N2 - q < d → q ≤ N2 → zFL s I J g → U = zUp s m x q → ZP l D zm_X12_mean 84 [some (.ref 109), some (.int (nI n)), some (.int (nI x)), some (.int (nI j)), some (.int (nI m)), some (.int (nI U)), some (.int (nI DN)), some (.int (nI q)), v8, v9, v10, v11] [] J (zF tw) (fun v J G => v = some (aMean s (nI n) (nI x) (nI j)) ∧ G = zF tw ∧ ∃ g, zFL s I J g) := by
            intro d
            induction d with
            | zero =>
              intro q J g v8 v9 v10 v11 U hd
              exact absurd hd (by omega)
            | succ d ih =>
              intro q J g v8 v9 v10 v11 U hd hq hF hU
              refine P_iload (pc := 84) dX12_mean_84 rfl ?_
              refine P_iconst (pc := 86) (x := nI 1) dX12_mean_86 (by decide) ?_
              refine P_iload (pc := 87) dX12_mean_87 rfl ?_
              refine P_ishl (pc := 89) dX12_mean_89 ?_
              rw [zshl_eq (by omega), hN]
              refine P_icmp_geN (pc := 90) (tgt := 242) dX12_mean_90 (by decide) (by omega) (by omega) (fun h90 => ?_) (fun h90 => ?_)
              · have hq2 : q = N2 := by omega
                have hUe : U = UP := by rw [hU, hq2, hUP]
                rw [hUe]
                refine P_iload (pc := 242) dX12_mean_242 rfl ?_
                refine P_istore (pc := 244) dX12_mean_244 (by decide) rfl ?_
                refine P_iload (pc := 246) dX12_mean_246 rfl ?_
                refine P_istore (pc := 248) dX12_mean_248 (by decide) rfl ?_
                exact lg (DN + 1) UP DN _ J g (by omega) rfl (by omega) (by omega) hF _ _
              · subst hU
                refine P_aload_n (pc := 93) dX12_mean_93 rfl ?_
                refine P_iconst (pc := 94) (x := nI 0) dX12_mean_94 (by decide) ?_
                refine P_sipush (pc := 95) (x := nI 352) dX12_mean_95 (by decide) ?_
                obtain ⟨_, J1, _, kc, rfl, rfl, hC⟩ := c_copy (l := l) (D := D) (tw := tw) (a := 0) (b := 352) hF.2.2.1 (by omega) (by omega) (by omega)
                rw [zCopy_eq hF.2.2.2] at hC
                have hF1 : zFL s I J1 (zTn s q 0) := hF.one hC (fun j hj => zCopy_out hj)
                refine P_callV (pc := 98) (S := []) (As := [_, _]) kc dX12_mean_98 ok_X12_copy ml_X12_203 iv_X12_copy ⟨by decide, by decide⟩ zret_v rfl ⟨rfl, by decide⟩ sh_109 ⟨by decide, rfl⟩ (Nat.le_of_ble_eq_true rfl) ?_
                refine P_iconst (pc := 101) (x := nI 1) dX12_mean_101 (by decide) ?_
                refine P_istore (pc := 102) dX12_mean_102 (by decide) rfl ?_
                refine P_iconst (pc := 104) (x := nI 0) dX12_mean_104 (by decide) ?_
                refine P_istore (pc := 105) dX12_mean_105 (by decide) rfl ?_
                have inner : ∀ (e2 : Nat) (k : Nat) (J1 : AI) (v10 v11 : Option Value), m - k < e2 → k ≤ m → zFL s I J1 (zTn s q k) → ZP l D zm_X12_mean 107 [some (.ref 109), some (.int (nI n)), some (.int (nI x)), some (.int (nI j)), some (.int (nI m)), some (.int (nI (zUp s m x q))), some (.int (nI DN)), some (.int (nI q)), some (.int (nI (zWy x q k))), some (.int (nI k)), v10, v11] [] J1 (zF tw) (fun v J G => v = some (aMean s (nI n) (nI x) (nI j)) ∧ G = zF tw ∧ ∃ g, zFL s I J g) := by
                  intro e2
                  induction e2 with
                  | zero =>
                    intro k J1 v10 v11 he2
                    exact absurd he2 (by omega)
                  | succ e2 ih2 =>
                    intro k J1 v10 v11 hd2 hk hF1
                    refine P_iload (pc := 107) dX12_mean_107 rfl ?_
                    refine P_iload (pc := 109) dX12_mean_109 rfl ?_
                    refine P_icmp_geN (pc := 111) (tgt := 212) dX12_mean_111 (by decide) (by omega) (by omega) (fun h111 => ?_) (fun h111 => ?_)
                    · have hk2 : m = k := by omega
                      subst hk2
                      have hwy := zWy_le (x := x) (m := q) (by omega) m
                      have hp11 := p10 hm5
                      refine P_iload (pc := 212) dX12_mean_212 rfl ?_
                      refine P_iload (pc := 214) dX12_mean_214 rfl ?_
                      refine P_if_neN (pc := 216) (tgt := 223) dX12_mean_216 (by decide) (by omega) (fun h216 => ?_) (fun h216 => ?_)
                      · refine P_iload (pc := 223) dX12_mean_223 rfl ?_
                        refine P_aload_n (pc := 225) dX12_mean_225 rfl ?_
                        refine P_sipush (pc := 226) (x := nI 352) dX12_mean_226 (by decide) ?_
                        obtain ⟨_, K, _, kt, rfl, rfl, hG, _⟩ := c_taxBy (l := l) (D := D) (tw := tw) (s := sT s (zTn s q m)) (b := 352) (hF1.R hR) hT hP (by omega) (zTn_k hnc hg8 hK hP (by omega))
                        refine P_callV (pc := 229) (S := [_, _]) (As := [_]) kt dX12_mean_229 ok_X12_taxBy ml_X12_200 iv_X12_taxBy ⟨by decide, by decide⟩ (zret_i _) rfl ⟨rfl, by decide⟩ sh_109 ⟨by decide, rfl⟩ (Nat.le_of_ble_eq_true rfl) ?_
                        refine P_imulN (pc := 232) dX12_mean_232 ?_
                        refine P_iaddN (pc := 233) dX12_mean_233 ?_
                        refine P_istore (pc := 234) dX12_mean_234 (by decide) rfl ?_
                        refine P_iincN (pc := 236) (c := 1) dX12_mean_236 rfl (by decide) (by decide) rfl ?_
                        refine P_goto (pc := 239) (tgt := 84) dX12_mean_239 (by decide) ?_
                        exact ih (q + 1) K _ _ _ _ _ _ (by omega) (by omega) (hF1.go hG) rfl
                      · refine P_iconst (pc := 219) (x := nI 0) dX12_mean_219 (by decide) ?_
                        refine P_goto (pc := 220) (tgt := 233) dX12_mean_220 (by decide) ?_
                        refine P_iaddN (pc := 233) dX12_mean_233 ?_
                        refine P_istore (pc := 234) dX12_mean_234 (by decide) rfl ?_
                        refine P_iincN (pc := 236) (c := 1) dX12_mean_236 rfl (by decide) (by decide) rfl ?_
                        refine P_goto (pc := 239) (tgt := 84) dX12_mean_239 (by decide) ?_
                        exact ih (q + 1) J1 _ _ _ _ _ _ (by omega) (by omega) hF1 (by show zUp s m x q = zUp s m x q + zWy x q m * taxAt (sT s (zTn s q m)) 352; rw [h216, Nat.zero_mul]; rfl)
                    · have hRk := (zTn_k (m := q) hnc hg8 hK hP (show k ≤ s 122 0 by omega)).1
                      have h3c : sT s (zTn s q k) 122 352 = s 122 0 := (zTn_o (s := s) (m := q) (k := k) (j := 352) (fun q _ => by omega)).trans zC0
                      have hb1 : zTn s q k (353 + 3 * k) < 8 := by have := (hRk.2 k (by rw [h3c]; omega)).1; exact this
                      have hb2 : zTn s q k (353 + 3 * k + 2) < 8 := by have := (hRk.2 k (by rw [h3c]; omega)).2.2; exact this
                      refine P_sipush (pc := 114) (x := nI 353) dX12_mean_114 (by decide) ?_
                      refine P_iconst (pc := 117) (x := nI 3) dX12_mean_117 (by decide) ?_
                      refine P_iload (pc := 118) dX12_mean_118 rfl ?_
                      refine P_imulN (pc := 120) dX12_mean_120 ?_
                      refine P_iaddN (pc := 121) dX12_mean_121 ?_
                      refine P_istore (pc := 122) dX12_mean_122 (by decide) rfl ?_
                      refine P_iload (pc := 124) dX12_mean_124 rfl ?_
                      refine P_iload (pc := 126) dX12_mean_126 rfl ?_
                      refine P_ishr (pc := 128) dX12_mean_128 ?_
                      refine P_iconst (pc := 129) (x := nI 1) dX12_mean_129 (by decide) ?_
                      refine P_iand (pc := 130) dX12_mean_130 ?_
                      rw [zbit_eq (by omega) (by omega)]
                      have hzb := zbit_le q k
                      refine P_iconst (pc := 131) (x := nI 1) dX12_mean_131 (by decide) ?_
                      refine P_sel2 (pc := 132) (zb (decide (zbit q k = 1))) 140 (fun k140_132 => ?_) ?_
                      · refine P_icmp_neN (pc := 132) (tgt := 139) dX12_mean_132 (by decide) (by omega) (by omega) (fun h132 => ?_) (fun h132 => ?_)
                        · refine P_iconst (pc := 139) (x := nI 0) dX12_mean_139 (by decide) ?_
                          exact k140_132 _ (by rw [decide_eq_false h132]; rfl)
                        · refine P_iconst (pc := 135) (x := nI 1) dX12_mean_135 (by decide) ?_
                          refine P_goto (pc := 136) (tgt := 140) dX12_mean_136 (by decide) ?_
                          exact k140_132 _ (by rw [decide_eq_true h132]; rfl)
                      · refine P_istore (pc := 140) dX12_mean_140 (by decide) rfl ?_
                        refine P_iload (pc := 142) dX12_mean_142 rfl ?_
                        refine P_iload (pc := 144) dX12_mean_144 rfl ?_
                        refine P_sel1 (pc := 146) (nI (if zbit q k = 1 then x else 10 - x)) 157 (fun k157_146 => ?_) ?_
                        · refine P_if_eqB (pc := 146) (tgt := 153) dX12_mean_146 (by decide) (fun h146 => ?_) (fun h146 => ?_)
                          · refine P_bipush (pc := 153) (x := nI 10) dX12_mean_153 (by decide) ?_
                            refine P_iload_n (pc := 155) dX12_mean_155 rfl ?_
                            refine P_isubN (pc := 156) dX12_mean_156 (by omega) ?_
                            exact k157_146 _ (by rw [if_neg (of_decide_eq_false h146)])
                          · refine P_iload_n (pc := 149) dX12_mean_149 rfl ?_
                            refine P_goto (pc := 150) (tgt := 157) dX12_mean_150 (by decide) ?_
                            exact k157_146 _ (by rw [if_pos (of_decide_eq_true h146)])
                        · refine P_imulN (pc := 157) dX12_mean_157 ?_
                          refine P_istore (pc := 158) dX12_mean_158 (by decide) rfl ?_
                          refine P_aload_n (pc := 160) dX12_mean_160 rfl ?_
                          refine P_getr (pc := 161) 12 17 dX12_mean_161 fl_X12_47 sh_109 fr_12_17 F_109_17 ?_
                          refine P_iload (pc := 164) dX12_mean_164 rfl ?_
                          refine P_iconst (pc := 166) (x := nI 2) dX12_mean_166 (by decide) ?_
                          refine P_iaddN (pc := 167) dX12_mean_167 ?_
                          refine P_iload (pc := 168) dX12_mean_168 rfl ?_
                          refine P_sel1 (pc := 170) (nI (if zbit q k = 1 then zTd (s 111 0) (s 123) (zTn s q k (353 + 3 * k)) (zTn s q k (353 + 3 * k + 2)) else zTn s q k (353 + 3 * k + 2))) 205 (fun k205_170 => ?_) ?_
                          · refine P_if_eqB (pc := 170) (tgt := 196) dX12_mean_170 (by decide) (fun h170 => ?_) (fun h170 => ?_)
                            · refine P_aload_n (pc := 196) dX12_mean_196 rfl ?_
                              refine P_getr (pc := 197) 12 17 dX12_mean_197 fl_X12_47 sh_109 fr_12_17 F_109_17 ?_
                              refine P_iload (pc := 200) dX12_mean_200 rfl ?_
                              refine P_iconst (pc := 202) (x := nI 2) dX12_mean_202 (by decide) ?_
                              refine P_iaddN (pc := 203) dX12_mean_203 ?_
                              refine P_iald (pc := 204) (((353 + (3 * k)) + 2)) (x := nI (zTn s q k ((353 + (3 * k)) + 2))) dX12_mean_204 sh_122 rfl (by omega) (by decide) (hF1.2.2.1 _) ?_
                              exact k205_170 _ (by rw [if_neg (of_decide_eq_false h170)])
                            · refine P_aload_n (pc := 173) dX12_mean_173 rfl ?_
                              refine P_aload_n (pc := 174) dX12_mean_174 rfl ?_
                              refine P_getr (pc := 175) 12 17 dX12_mean_175 fl_X12_47 sh_109 fr_12_17 F_109_17 ?_
                              refine P_iload (pc := 178) dX12_mean_178 rfl ?_
                              refine P_iald (pc := 180) ((353 + (3 * k))) (x := nI (zTn s q k (353 + (3 * k)))) dX12_mean_180 sh_122 rfl (by omega) (by decide) (hF1.2.2.1 _) ?_
                              refine P_aload_n (pc := 181) dX12_mean_181 rfl ?_
                              refine P_getr (pc := 182) 12 17 dX12_mean_182 fl_X12_47 sh_109 fr_12_17 F_109_17 ?_
                              refine P_iload (pc := 185) dX12_mean_185 rfl ?_
                              refine P_iconst (pc := 187) (x := nI 2) dX12_mean_187 (by decide) ?_
                              refine P_iaddN (pc := 188) dX12_mean_188 ?_
                              refine P_iald (pc := 189) (((353 + (3 * k)) + 2)) (x := nI (zTn s q k ((353 + (3 * k)) + 2))) dX12_mean_189 sh_122 rfl (by omega) (by decide) (hF1.2.2.1 _) ?_
                              obtain ⟨_, _, _, ku, rfl, rfl, rfl⟩ := c_turned (l := l) (D := D) (tw := tw) (s := sT s (zTn s q k)) (c := zTn s q k (353 + 3 * k)) (n := zTn s q k (353 + 3 * k + 2)) (hF1.R hR) hT.1 hnc hb1 hb2
                              refine P_callV (pc := 190) (S := [_, _]) (As := [_, _]) ku dX12_mean_190 ok_X12_turned ml_X12_219 iv_X12_turned ⟨by decide, by decide⟩ (zret_i _) rfl ⟨rfl, by decide⟩ sh_109 ⟨by decide, rfl⟩ (Nat.le_of_ble_eq_true rfl) ?_
                              refine P_goto (pc := 193) (tgt := 205) dX12_mean_193 (by decide) ?_
                              exact k205_170 _ (by rw [if_pos (of_decide_eq_true h170)]; rfl)
                          · refine P_iast (pc := 205) (((353 + (3 * k)) + 2)) dX12_mean_205 sh_122 rfl (by omega) (by decide) ?_
                            refine P_iincN (pc := 206) (c := 1) dX12_mean_206 rfl (by decide) (by decide) rfl ?_
                            refine P_goto (pc := 209) (tgt := 107) dX12_mean_209 (by decide) ?_
                            refine ih2 (k + 1) _ _ _ (by omega) (by omega) ⟨fun a h1 h2 h3 h4 => by rw [zu_o _ _ h2]; exact hF1.1 a h1 h2 h3 h4, fun q2 h2 => by rw [zu_o _ _ (by decide)]; exact hF1.2.1 q2 h2, fun j2 => ?_, zTn_f (by omega)⟩
                            show _ = nI (va_up (zTn s q k) (353 + 3 * k + 2) (if zbit q k = 1 then zTd (s 111 0) (s 123) (zTn s q k (353 + 3 * k)) (zTn s q k (353 + 3 * k + 2)) else zTn s q k (353 + 3 * k + 2)) j2)
                            by_cases e : j2 = 353 + 3 * k + 2
                            · rw [e, zu_s, va_up_s]
                            · rw [zu_n _ _ e, va_up_n _ _ e]; exact hF1.2.2.1 j2
                exact inner (m + 1) 0 J1 _ _ (by omega) (by omega) hF1
          have ld : ∀ (ed : Nat) (k : Nat), m - k < ed → k ≤ m → ZP l D zm_X12_mean 61 [some (.ref 109), some (.int (nI n)), some (.int (nI x)), some (.int (nI j)), some (.int (nI m)), some (.int (nI 0)), some (.int (nI (10 ^ k))), some (.int (nI k)), none, none, none, none] [] I (zF tw) (fun v J G => v = some (aMean s (nI n) (nI x) (nI j)) ∧ G = zF tw ∧ ∃ g, zFL s I J g) := by
            intro ed
            induction ed with
            | zero =>
              intro k hed
              exact absurd hed (by omega)
            | succ ed ihd =>
              intro k hdd hk
              refine P_iload (pc := 61) dX12_mean_61 rfl ?_
              refine P_iload (pc := 63) dX12_mean_63 rfl ?_
              refine P_icmp_geN (pc := 65) (tgt := 81) dX12_mean_65 (by decide) (by omega) (by omega) (fun h65 => ?_) (fun h65 => ?_)
              · have hk2 : m = k := by omega
                subst hk2
                rw [← hDN]
                refine P_iconst (pc := 81) (x := nI 0) dX12_mean_81 (by decide) ?_
                refine P_istore (pc := 82) dX12_mean_82 (by decide) rfl ?_
                exact lo (N2 + 1) 0 I (s 122) _ _ _ _ 0 (by omega) (by omega) (zFL.rf hR) rfl
              · refine P_iload (pc := 68) dX12_mean_68 rfl ?_
                refine P_bipush (pc := 70) (x := nI 10) dX12_mean_70 (by decide) ?_
                refine P_imulN (pc := 72) dX12_mean_72 ?_
                refine P_istore (pc := 73) dX12_mean_73 (by decide) rfl ?_
                refine P_iincN (pc := 75) (c := 1) dX12_mean_75 rfl (by decide) (by decide) rfl ?_
                refine P_goto (pc := 78) (tgt := 61) dX12_mean_78 (by decide) ?_
                exact ihd (k + 1) (by omega) (by omega)
          exact ld (m + 1) 0 (by omega) (by omega)
      · refine P_iconst (pc := 28) (x := (-1)) dX12_mean_28 (by decide) ?_
        exact P_iret (pc := 29) dX12_mean_29 (⟨by unfold aMean; rw [if_neg (by intro z; simp_all)], rfl, _, zFL.rf hR⟩)
