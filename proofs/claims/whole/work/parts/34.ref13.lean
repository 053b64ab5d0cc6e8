theorem zo_eq4 {n : Nat} {w : Option Nat} (hn : n < 2 ^ 31) (hw : ∀ m, w = some m → m < 2 ^ 31) : nI n = zo (-4) w ↔ some n = w := by
  cases w with
  | none => exact ⟨fun h => absurd h (zne4 hn), fun h => by cases h⟩
  | some m =>
    show nI n = nI m ↔ some n = some m
    rw [nI_eq hn (hw m rfl)]
    exact ⟨fun h => by rw [h], fun h => by cases h; rfl⟩
set_option maxRecDepth 20000 in
theorem c_measure {l : Launch} {D : va_G} {tw : Nat} {I : AI} {s : Nat → Nat → Nat} (hR : RefV s I) (hG : RefG s) {w : Option Nat} (hwb : ∀ m, w = some m → m < 2 ^ 31) : ZP l D zm_X12_measure 0 (zent 5 [.ref 109, .int (zo (-4) w)]) [] I (zF tw) (fun v J G => v = none ∧ G = zF tw ∧ zF3 I J (nrS s w) (zFar (nrS s w))) := by
  have hG1 := hG.1
  have hNb : ∀ k, nrS s w k ≤ 10000 := zNr_le (fun k hk => (hG.2 k hk).2.2)
  have hDb : ∀ m a b, zD (nrS s w) m a b ≤ 10000 := fun m a b => zD_le hNb m
  have l5 : ∀ (d : Nat) (m : Nat) (K : AI) (v3 v4 : Option Value), 8 - m < d → m ≤ 8 → (∀ a, a ≠ 123 → a ≠ 124 → K a = I a) ∧ (∀ k, 64 ≤ k → K 123 k = I 123 k ∧ K 124 k = I 124 k) → (∀ j, j < 64 → K 123 j = nI (nrS s w j)) → (∀ j, j < 64 → K 124 j = nI (zD (nrS s w) m (j / 8) (j % 8))) → ZP l D zm_X12_measure 143 [some (.ref 109), some (.int (zo (-4) w)), some (.int (nI m)), v3, v4] [] K (zF tw) (fun v J G => v = none ∧ G = zF tw ∧ zF3 I J (nrS s w) (zFar (nrS s w))) := by
    intro d
    induction d with
    | zero =>
      intro m K v3 v4 hd
      exact absurd hd (by omega)
    | succ d ih =>
      intro m K v3 v4 hd hm hF hne hfa
      refine P_iload_n (pc := 143) dX12_measure_143 rfl ?_
      refine P_bipush (pc := 144) (x := nI 8) dX12_measure_144 (by decide) ?_
      refine P_icmp_geN (pc := 146) (tgt := 228) dX12_measure_146 (by decide) (by omega) (by omega) (fun h146 => ?_) (fun h146 => ?_)
      · refine P_ret (pc := 228) dX12_measure_228 ?_
        have hm2 : m = 8 := by omega
        subst hm2
        exact ⟨rfl, rfl, hF.1, hne, hfa, hF.2⟩
      · refine P_iconst (pc := 149) (x := nI 0) dX12_measure_149 (by decide) ?_
        refine P_istore_n (pc := 150) dX12_measure_150 (by decide) rfl ?_
        have inner : ∀ (e2 : Nat) (k : Nat) (K : AI) (v4 : Option Value), 64 - k < e2 → k ≤ 64 → (∀ a, a ≠ 123 → a ≠ 124 → K a = I a) ∧ (∀ k, 64 ≤ k → K 123 k = I 123 k ∧ K 124 k = I 124 k) → (∀ j, j < 64 → K 123 j = nI (nrS s w j)) → (∀ j, j < 64 → K 124 j = nI (if j < k then zD (nrS s w) (m + 1) (j / 8) (j % 8) else zD (nrS s w) m (j / 8) (j % 8))) → ZP l D zm_X12_measure 151 [some (.ref 109), some (.int (zo (-4) w)), some (.int (nI m)), some (.int (nI k)), v4] [] K (zF tw) (fun v J G => v = none ∧ G = zF tw ∧ zF3 I J (nrS s w) (zFar (nrS s w))) := by
          intro e2
          induction e2 with
          | zero =>
            intro k K v4 he2
            exact absurd he2 (by omega)
          | succ e2 ih2 =>
            intro k K v4 hd2 hk hF hne hfa
            refine P_iload_n (pc := 151) dX12_measure_151 rfl ?_
            refine P_bipush (pc := 152) (x := nI 64) dX12_measure_152 (by decide) ?_
            refine P_icmp_geN (pc := 154) (tgt := 222) dX12_measure_154 (by decide) (by first | omega | (have := hDb m (k / 8) m; have := hDb m m (k % 8); have := hDb m (k / 8) (k % 8); omega)) (by first | omega | (have := hDb m (k / 8) m; have := hDb m m (k % 8); have := hDb m (k / 8) (k % 8); omega)) (fun h154 => ?_) (fun h154 => ?_)
            · refine P_iincN (pc := 222) (c := 1) dX12_measure_222 rfl (by decide) (by decide) rfl ?_
              refine P_goto (pc := 225) (tgt := 143) dX12_measure_225 (by decide) ?_
              exact ih (m + 1) K _ _ (by omega) (by omega) hF hne (fun j hj => by rw [hfa j hj, if_pos (by omega)])
            · have hrd1 : K 124 (8 * (k / 8) + m) = nI (zD (nrS s w) m (k / 8) m) := by
                rw [hfa _ (by omega)]
                congr 1
                rw [show (8 * (k / 8) + m) / 8 = k / 8 by omega, show (8 * (k / 8) + m) % 8 = m by omega]
                split
                · exact zD_r
                · rfl
              have hrd2 : K 124 (8 * m + k % 8) = nI (zD (nrS s w) m m (k % 8)) := by
                rw [hfa _ (by omega)]
                congr 1
                rw [show (8 * m + k % 8) / 8 = m by omega, show (8 * m + k % 8) % 8 = k % 8 by omega]
                split
                · exact zD_l
                · rfl
              have hrd3 : K 124 k = nI (zD (nrS s w) m (k / 8) (k % 8)) := by rw [hfa k (by omega), if_neg (by omega)]
              refine P_aload_n (pc := 157) dX12_measure_157 rfl ?_
              refine P_getr (pc := 158) 12 21 dX12_measure_158 fl_X12_53 sh_109 fr_12_21 F_109_21 ?_
              refine P_bipush (pc := 161) (x := nI 8) dX12_measure_161 (by decide) ?_
              refine P_iload_n (pc := 163) dX12_measure_163 rfl ?_
              refine P_bipush (pc := 164) (x := nI 8) dX12_measure_164 (by decide) ?_
              refine P_idivN (pc := 166) dX12_measure_166 (by first | omega | (have := hDb m (k / 8) m; have := hDb m m (k % 8); have := hDb m (k / 8) (k % 8); omega)) (by first | omega | (have := hDb m (k / 8) m; have := hDb m m (k % 8); have := hDb m (k / 8) (k % 8); omega)) (by first | omega | (have := hDb m (k / 8) m; have := hDb m m (k % 8); have := hDb m (k / 8) (k % 8); omega)) ?_
              refine P_imulN (pc := 167) dX12_measure_167 ?_
              refine P_iload_n (pc := 168) dX12_measure_168 rfl ?_
              refine P_iaddN (pc := 169) dX12_measure_169 ?_
              refine P_iald (pc := 170) (((8 * (k / 8)) + m)) (x := nI (zD (nrS s w) m (k / 8) m)) dX12_measure_170 sh_124 rfl (by first | omega | (have := hDb m (k / 8) m; have := hDb m m (k % 8); have := hDb m (k / 8) (k % 8); omega)) (by decide) (hrd1) ?_
              refine P_aload_n (pc := 171) dX12_measure_171 rfl ?_
              refine P_getr (pc := 172) 12 21 dX12_measure_172 fl_X12_53 sh_109 fr_12_21 F_109_21 ?_
              refine P_bipush (pc := 175) (x := nI 8) dX12_measure_175 (by decide) ?_
              refine P_iload_n (pc := 177) dX12_measure_177 rfl ?_
              refine P_imulN (pc := 178) dX12_measure_178 ?_
              refine P_iload_n (pc := 179) dX12_measure_179 rfl ?_
              refine P_bipush (pc := 180) (x := nI 8) dX12_measure_180 (by decide) ?_
              refine P_iremN (pc := 182) dX12_measure_182 (by first | omega | (have := hDb m (k / 8) m; have := hDb m m (k % 8); have := hDb m (k / 8) (k % 8); omega)) (by first | omega | (have := hDb m (k / 8) m; have := hDb m m (k % 8); have := hDb m (k / 8) (k % 8); omega)) (by first | omega | (have := hDb m (k / 8) m; have := hDb m m (k % 8); have := hDb m (k / 8) (k % 8); omega)) ?_
              refine P_iaddN (pc := 183) dX12_measure_183 ?_
              refine P_iald (pc := 184) (((8 * m) + (k % 8))) (x := nI (zD (nrS s w) m m (k % 8))) dX12_measure_184 sh_124 rfl (by first | omega | (have := hDb m (k / 8) m; have := hDb m m (k % 8); have := hDb m (k / 8) (k % 8); omega)) (by decide) (hrd2) ?_
              refine P_iaddN (pc := 185) dX12_measure_185 ?_
              refine P_istore (pc := 186) dX12_measure_186 (by decide) rfl ?_
              refine P_aload_n (pc := 188) dX12_measure_188 rfl ?_
              refine P_getr (pc := 189) 12 21 dX12_measure_189 fl_X12_53 sh_109 fr_12_21 F_109_21 ?_
              refine P_iload_n (pc := 192) dX12_measure_192 rfl ?_
              refine P_iload (pc := 193) dX12_measure_193 rfl ?_
              refine P_aload_n (pc := 195) dX12_measure_195 rfl ?_
              refine P_getr (pc := 196) 12 21 dX12_measure_196 fl_X12_53 sh_109 fr_12_21 F_109_21 ?_
              refine P_iload_n (pc := 199) dX12_measure_199 rfl ?_
              refine P_iald (pc := 200) (k) (x := nI (zD (nrS s w) m (k / 8) (k % 8))) dX12_measure_200 sh_124 rfl (by first | omega | (have := hDb m (k / 8) m; have := hDb m m (k % 8); have := hDb m (k / 8) (k % 8); omega)) (by decide) (hrd3) ?_
              refine P_sel2 (pc := 201) (nI (zD (nrS s w) (m + 1) (k / 8) (k % 8))) 215 (fun k215_201 => ?_) ?_
              · refine P_icmp_geN (pc := 201) (tgt := 209) dX12_measure_201 (by decide) (by first | omega | (have := hDb m (k / 8) m; have := hDb m m (k % 8); have := hDb m (k / 8) (k % 8); omega)) (by first | omega | (have := hDb m (k / 8) m; have := hDb m m (k % 8); have := hDb m (k / 8) (k % 8); omega)) (fun h201 => ?_) (fun h201 => ?_)
                · refine P_aload_n (pc := 209) dX12_measure_209 rfl ?_
                  refine P_getr (pc := 210) 12 21 dX12_measure_210 fl_X12_53 sh_109 fr_12_21 F_109_21 ?_
                  refine P_iload_n (pc := 213) dX12_measure_213 rfl ?_
                  refine P_iald (pc := 214) (k) (x := nI (zD (nrS s w) m (k / 8) (k % 8))) dX12_measure_214 sh_124 rfl (by first | omega | (have := hDb m (k / 8) m; have := hDb m m (k % 8); have := hDb m (k / 8) (k % 8); omega)) (by decide) (hrd3) ?_
                  exact k215_201 _ (by rw [zD_s, Nat.min_eq_left (by omega)])
                · refine P_iload (pc := 204) dX12_measure_204 rfl ?_
                  refine P_goto (pc := 206) (tgt := 215) dX12_measure_206 (by decide) ?_
                  exact k215_201 _ (by rw [zD_s, Nat.min_eq_right (by omega)])
              · refine P_iast (pc := 215) (k) dX12_measure_215 sh_124 rfl (by first | omega | (have := hDb m (k / 8) m; have := hDb m m (k % 8); have := hDb m (k / 8) (k % 8); omega)) (by decide) ?_
                refine P_iincN (pc := 216) (c := 1) dX12_measure_216 rfl (by decide) (by decide) rfl ?_
                refine P_goto (pc := 219) (tgt := 151) dX12_measure_219 (by decide) ?_
                refine ih2 (k + 1) _ _ (by omega) (by omega) ⟨fun a h1 h2 => by rw [zu_o _ _ h2]; exact hF.1 a h1 h2, fun k2 h2 => ⟨by first | (rw [zu_n _ _ (by omega)]; exact (hF.2 k2 h2).1) | (rw [zu_o _ _ (by decide)]; exact (hF.2 k2 h2).1), by first | (rw [zu_n _ _ (by omega)]; exact (hF.2 k2 h2).2) | (rw [zu_o _ _ (by decide)]; exact (hF.2 k2 h2).2)⟩⟩ (fun j hj => ?_) (fun j hj => ?_)
                · rw [zu_o _ _ (by decide)]; exact hne j hj
                · by_cases e : j = k
                  · subst e
                    rw [zu_s, if_pos (by omega)]
                  · rw [zu_n _ _ e, hfa j hj]
                    congr 1
                    by_cases e2 : j < k
                    · rw [if_pos e2, if_pos (by omega)]
                    · rw [if_neg e2, if_neg (by omega)]
        exact inner 65 0 K _ (by omega) (by omega) hF hne (fun j hj => by rw [hfa j hj, if_neg (by omega)])
  have l3 : ∀ (d : Nat) (k : Nat) (K : AI), 64 - k < d → k ≤ 64 → (∀ a, a ≠ 123 → a ≠ 124 → K a = I a) ∧ (∀ k, 64 ≤ k → K 123 k = I 123 k ∧ K 124 k = I 124 k) → (∀ j, j < 64 → K 123 j = nI (nrS s w j)) → (∀ j, j < k → K 124 j = nI (zD (nrS s w) 0 (j / 8) (j % 8))) → ZP l D zm_X12_measure 102 [some (.ref 109), some (.int (zo (-4) w)), some (.int (nI k)), none, none] [] K (zF tw) (fun v J G => v = none ∧ G = zF tw ∧ zF3 I J (nrS s w) (zFar (nrS s w))) := by
    intro d
    induction d with
    | zero =>
      intro k K hd
      exact absurd hd (by omega)
    | succ d ih =>
      intro k K hd hk hF hne hfa
      refine P_iload_n (pc := 102) dX12_measure_102 rfl ?_
      refine P_bipush (pc := 103) (x := nI 64) dX12_measure_103 (by decide) ?_
      refine P_icmp_geN (pc := 105) (tgt := 141) dX12_measure_105 (by decide) (by omega) (by omega) (fun h105 => ?_) (fun h105 => ?_)
      · refine P_iconst (pc := 141) (x := nI 0) dX12_measure_141 (by decide) ?_
        refine P_istore_n (pc := 142) dX12_measure_142 (by decide) rfl ?_
        exact l5 9 0 K none none (by omega) (by omega) hF hne (fun j hj => hfa j (by omega))
      · refine P_aload_n (pc := 108) dX12_measure_108 rfl ?_
        refine P_getr (pc := 109) 12 21 dX12_measure_109 fl_X12_53 sh_109 fr_12_21 F_109_21 ?_
        refine P_iload_n (pc := 112) dX12_measure_112 rfl ?_
        refine P_iload_n (pc := 113) dX12_measure_113 rfl ?_
        refine P_bipush (pc := 114) (x := nI 8) dX12_measure_114 (by decide) ?_
        refine P_idivN (pc := 116) dX12_measure_116 (by omega) (by omega) (by omega) ?_
        refine P_iload_n (pc := 117) dX12_measure_117 rfl ?_
        refine P_bipush (pc := 118) (x := nI 8) dX12_measure_118 (by decide) ?_
        refine P_iremN (pc := 120) dX12_measure_120 (by omega) (by omega) (by omega) ?_
        refine P_sel2 (pc := 121) (nI (zD (nrS s w) 0 (k / 8) (k % 8))) 134 (fun k134_121 => ?_) ?_
        · refine P_icmp_neN (pc := 121) (tgt := 128) dX12_measure_121 (by decide) (by omega) (by omega) (fun h121 => ?_) (fun h121 => ?_)
          · refine P_aload_n (pc := 128) dX12_measure_128 rfl ?_
            refine P_getr (pc := 129) 12 20 dX12_measure_129 fl_X12_50 sh_109 fr_12_20 F_109_20 ?_
            refine P_iload_n (pc := 132) dX12_measure_132 rfl ?_
            refine P_iald (pc := 133) (k) (x := nI (nrS s w k)) dX12_measure_133 sh_123 rfl (by omega) (by decide) (hne k (by omega)) ?_
            exact k134_121 _ (by rw [zD_0, if_neg h121, show 8 * (k / 8) + k % 8 = k by omega])
          · refine P_iconst (pc := 124) (x := nI 0) dX12_measure_124 (by decide) ?_
            refine P_goto (pc := 125) (tgt := 134) dX12_measure_125 (by decide) ?_
            exact k134_121 _ (by rw [zD_0, if_pos (by omega)])
        · refine P_iast (pc := 134) (k) dX12_measure_134 sh_124 rfl (by omega) (by decide) ?_
          refine P_iincN (pc := 135) (c := 1) dX12_measure_135 rfl (by decide) (by decide) rfl ?_
          refine P_goto (pc := 138) (tgt := 102) dX12_measure_138 (by decide) ?_
          refine ih (k + 1) _ (by omega) (by omega) ⟨fun a h1 h2 => by rw [zu_o _ _ h2]; exact hF.1 a h1 h2, fun k2 h2 => ⟨by first | (rw [zu_n _ _ (by omega)]; exact (hF.2 k2 h2).1) | (rw [zu_o _ _ (by decide)]; exact (hF.2 k2 h2).1), by first | (rw [zu_n _ _ (by omega)]; exact (hF.2 k2 h2).2) | (rw [zu_o _ _ (by decide)]; exact (hF.2 k2 h2).2)⟩⟩ (fun j hj => ?_) (fun j hj => ?_)
          · rw [zu_o _ _ (by decide)]; exact hne j hj
          · by_cases e : j = k
            · subst e
              rw [zu_s]
            · rw [zu_n _ _ e]; exact hfa j (by omega)
  have l2 : ∀ (d : Nat) (k : Nat) (K : AI), s 112 0 - k < d → k ≤ s 112 0 → (∀ a, a ≠ 123 → a ≠ 124 → K a = I a) ∧ (∀ k, 64 ≤ k → K 123 k = I 123 k ∧ K 124 k = I 124 k) → (∀ j, j < 64 → K 123 j = nI ((zNr (s 113) (s 114) (s 115) w k) j)) → ZP l D zm_X12_measure 25 [some (.ref 109), some (.int (zo (-4) w)), some (.int (nI k)), none, none] [] K (zF tw) (fun v J G => v = none ∧ G = zF tw ∧ zF3 I J (nrS s w) (zFar (nrS s w))) := by
    intro d
    induction d with
    | zero =>
      intro k K hd
      exact absurd hd (by omega)
    | succ d ih =>
      intro k K hd hk hF hne
      refine P_iload_n (pc := 25) dX12_measure_25 rfl ?_
      refine P_aload_n (pc := 26) dX12_measure_26 rfl ?_
      refine P_getr (pc := 27) 12 3 dX12_measure_27 fl_X12_17 sh_109 fr_12_3 F_109_3 ?_
      refine P_iconst (pc := 30) (x := nI 0) dX12_measure_30 (by decide) ?_
      refine P_iald (pc := 31) (0) (x := nI (s 112 0)) dX12_measure_31 sh_112 rfl (by omega) (by decide) ((congrFun (hF.1 112 (by decide) (by decide)) _).trans (hR 112 _ rfl)) ?_
      refine P_icmp_geN (pc := 32) (tgt := 100) dX12_measure_32 (by decide) (by omega) (by omega) (fun h32 => ?_) (fun h32 => ?_)
      · have hk2 : k = s 112 0 := by omega
        subst hk2
        refine P_iconst (pc := 100) (x := nI 0) dX12_measure_100 (by decide) ?_
        refine P_istore_n (pc := 101) dX12_measure_101 (by decide) rfl ?_
        exact l3 65 0 K (by omega) (by omega) hF hne (fun j hj => by omega)
      · refine P_iload_n (pc := 35) dX12_measure_35 rfl ?_
        refine P_iload_n (pc := 36) dX12_measure_36 rfl ?_
        refine P_icmp_eq (pc := 37) (tgt := 94) dX12_measure_37 (by decide) (fun h37 => ?_) (fun h37 => ?_)
        · refine P_iincN (pc := 94) (c := 1) dX12_measure_94 rfl (by decide) (by decide) rfl ?_
          refine P_goto (pc := 97) (tgt := 25) dX12_measure_97 (by decide) ?_
          refine ih (k + 1) _ (by omega) (by omega) hF (fun j hj => ?_)
          rw [zNr, if_pos ((zo_eq4 (by omega) hwb).mp h37)]; exact hne j hj
        · have hg1 : s 113 k < 8 := (hG.2 k (by omega)).1
          have hg2 : s 114 k < 8 := (hG.2 k (by omega)).2.1
          refine P_aload_n (pc := 40) dX12_measure_40 rfl ?_
          refine P_getr (pc := 41) 12 20 dX12_measure_41 fl_X12_50 sh_109 fr_12_20 F_109_20 ?_
          refine P_bipush (pc := 44) (x := nI 8) dX12_measure_44 (by decide) ?_
          refine P_aload_n (pc := 46) dX12_measure_46 rfl ?_
          refine P_getr (pc := 47) 12 4 dX12_measure_47 fl_X12_20 sh_109 fr_12_4 F_109_4 ?_
          refine P_iload_n (pc := 50) dX12_measure_50 rfl ?_
          refine P_iald (pc := 51) (k) (x := nI (s 113 k)) dX12_measure_51 sh_113 rfl (by omega) (by decide) ((congrFun (hF.1 113 (by decide) (by decide)) _).trans (hR 113 _ rfl)) ?_
          refine P_imulN (pc := 52) dX12_measure_52 ?_
          refine P_aload_n (pc := 53) dX12_measure_53 rfl ?_
          refine P_getr (pc := 54) 12 5 dX12_measure_54 fl_X12_23 sh_109 fr_12_5 F_109_5 ?_
          refine P_iload_n (pc := 57) dX12_measure_57 rfl ?_
          refine P_iald (pc := 58) (k) (x := nI (s 114 k)) dX12_measure_58 sh_114 rfl (by omega) (by decide) ((congrFun (hF.1 114 (by decide) (by decide)) _).trans (hR 114 _ rfl)) ?_
          refine P_iaddN (pc := 59) dX12_measure_59 ?_
          refine P_aload_n (pc := 60) dX12_measure_60 rfl ?_
          refine P_getr (pc := 61) 12 6 dX12_measure_61 fl_X12_26 sh_109 fr_12_6 F_109_6 ?_
          refine P_iload_n (pc := 64) dX12_measure_64 rfl ?_
          refine P_iald (pc := 65) (k) (x := nI (s 115 k)) dX12_measure_65 sh_115 rfl (by omega) (by decide) ((congrFun (hF.1 115 (by decide) (by decide)) _).trans (hR 115 _ rfl)) ?_
          refine P_iast (pc := 66) (((8 * (s 113 k)) + (s 114 k))) dX12_measure_66 sh_123 rfl (by omega) (by decide) ?_
          refine P_aload_n (pc := 67) dX12_measure_67 rfl ?_
          refine P_getr (pc := 68) 12 20 dX12_measure_68 fl_X12_50 sh_109 fr_12_20 F_109_20 ?_
          refine P_bipush (pc := 71) (x := nI 8) dX12_measure_71 (by decide) ?_
          refine P_aload_n (pc := 73) dX12_measure_73 rfl ?_
          refine P_getr (pc := 74) 12 5 dX12_measure_74 fl_X12_23 sh_109 fr_12_5 F_109_5 ?_
          refine P_iload_n (pc := 77) dX12_measure_77 rfl ?_
          refine P_iald (pc := 78) (k) (x := nI (s 114 k)) dX12_measure_78 sh_114 rfl (by omega) (by decide) ((congrFun (hF.1 114 (by decide) (by decide)) _).trans (hR 114 _ rfl)) ?_
          refine P_imulN (pc := 79) dX12_measure_79 ?_
          refine P_aload_n (pc := 80) dX12_measure_80 rfl ?_
          refine P_getr (pc := 81) 12 4 dX12_measure_81 fl_X12_20 sh_109 fr_12_4 F_109_4 ?_
          refine P_iload_n (pc := 84) dX12_measure_84 rfl ?_
          refine P_iald (pc := 85) (k) (x := nI (s 113 k)) dX12_measure_85 sh_113 rfl (by omega) (by decide) ((congrFun (hF.1 113 (by decide) (by decide)) _).trans (hR 113 _ rfl)) ?_
          refine P_iaddN (pc := 86) dX12_measure_86 ?_
          refine P_aload_n (pc := 87) dX12_measure_87 rfl ?_
          refine P_getr (pc := 88) 12 6 dX12_measure_88 fl_X12_26 sh_109 fr_12_6 F_109_6 ?_
          refine P_iload_n (pc := 91) dX12_measure_91 rfl ?_
          refine P_iald (pc := 92) (k) (x := nI (s 115 k)) dX12_measure_92 sh_115 rfl (by omega) (by decide) ((congrFun (hF.1 115 (by decide) (by decide)) _).trans (hR 115 _ rfl)) ?_
          refine P_iast (pc := 93) (((8 * (s 114 k)) + (s 113 k))) dX12_measure_93 sh_123 rfl (by omega) (by decide) ?_
          refine P_iincN (pc := 94) (c := 1) dX12_measure_94 rfl (by decide) (by decide) rfl ?_
          refine P_goto (pc := 97) (tgt := 25) dX12_measure_97 (by decide) ?_
          refine ih (k + 1) _ (by omega) (by omega) ⟨fun a h1 h2 => by rw [zu_o _ _ h1, zu_o _ _ h1]; exact hF.1 a h1 h2, fun k2 h2 => ⟨by rw [zu_n _ _ (by omega), zu_n _ _ (by omega)]; exact (hF.2 k2 h2).1, by rw [zu_o _ _ (by decide), zu_o _ _ (by decide)]; exact (hF.2 k2 h2).2⟩⟩ (fun j hj => ?_)
          rw [zNr, if_neg (fun z => h37 ((zo_eq4 (by omega) hwb).mpr z))]
          by_cases e1 : j = 8 * s 114 k + s 113 k
          · rw [e1, zu_s, va_up_s]
          · rw [zu_n _ _ e1, va_up_n _ _ e1]
            by_cases e2 : j = 8 * s 113 k + s 114 k
            · rw [e2, zu_s, va_up_s]
            · rw [zu_n _ _ e2, va_up_n _ _ e2]; exact hne j hj
  have l1 : ∀ (d : Nat) (k : Nat) (K : AI), 64 - k < d → k ≤ 64 → (∀ a, a ≠ 123 → a ≠ 124 → K a = I a) ∧ (∀ k, 64 ≤ k → K 123 k = I 123 k ∧ K 124 k = I 124 k) → (∀ j, j < k → K 123 j = nI 10000) → ZP l D zm_X12_measure 2 [some (.ref 109), some (.int (zo (-4) w)), some (.int (nI k)), none, none] [] K (zF tw) (fun v J G => v = none ∧ G = zF tw ∧ zF3 I J (nrS s w) (zFar (nrS s w))) := by
    intro d
    induction d with
    | zero =>
      intro k K hd
      exact absurd hd (by omega)
    | succ d ih =>
      intro k K hd hk hF hne
      refine P_iload_n (pc := 2) dX12_measure_2 rfl ?_
      refine P_bipush (pc := 3) (x := nI 64) dX12_measure_3 (by decide) ?_
      refine P_icmp_geN (pc := 5) (tgt := 23) dX12_measure_5 (by decide) (by omega) (by omega) (fun h5 => ?_) (fun h5 => ?_)
      · refine P_iconst (pc := 23) (x := nI 0) dX12_measure_23 (by decide) ?_
        refine P_istore_n (pc := 24) dX12_measure_24 (by decide) rfl ?_
        exact l2 (s 112 0 + 1) 0 K (by omega) (by omega) hF (fun j hj => hne j (by omega))
      · refine P_aload_n (pc := 8) dX12_measure_8 rfl ?_
        refine P_getr (pc := 9) 12 20 dX12_measure_9 fl_X12_50 sh_109 fr_12_20 F_109_20 ?_
        refine P_iload_n (pc := 12) dX12_measure_12 rfl ?_
        refine P_sipush (pc := 13) (x := nI 10000) dX12_measure_13 (by decide) ?_
        refine P_iast (pc := 16) (k) dX12_measure_16 sh_123 rfl (by omega) (by decide) ?_
        refine P_iincN (pc := 17) (c := 1) dX12_measure_17 rfl (by decide) (by decide) rfl ?_
        refine P_goto (pc := 20) (tgt := 2) dX12_measure_20 (by decide) ?_
        refine ih (k + 1) _ (by omega) (by omega) ⟨fun a h1 h2 => by rw [zu_o _ _ h1]; exact hF.1 a h1 h2, fun k2 h2 => ⟨by first | (rw [zu_n _ _ (by omega)]; exact (hF.2 k2 h2).1) | (rw [zu_o _ _ (by decide)]; exact (hF.2 k2 h2).1), by first | (rw [zu_n _ _ (by omega)]; exact (hF.2 k2 h2).2) | (rw [zu_o _ _ (by decide)]; exact (hF.2 k2 h2).2)⟩⟩ (fun j hj => ?_)
        by_cases e : j = k
        · subst e; rw [zu_s]
        · rw [zu_n _ _ e]; exact hne j (by omega)
  show ZP _ _ _ _ [some _, some _, none, none, none] _ _ _ _
  refine P_iconst (pc := 0) (x := nI 0) dX12_measure_0 (by decide) ?_
  refine P_istore_n (pc := 1) dX12_measure_1 (by decide) rfl ?_
  exact l1 65 0 I (by omega) (by omega) ⟨fun _ _ _ => rfl, fun _ _ => ⟨rfl, rfl⟩⟩ (fun j hj => by omega)
