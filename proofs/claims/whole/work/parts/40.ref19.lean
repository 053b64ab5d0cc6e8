set_option maxRecDepth 20000 in
theorem c_takeDraft {l : Launch} {D : va_G} {tw : Nat} {I : AI} {s : Nat → Nat → Nat} (hR : RefV s I) (hA1 : I 109 1 = nI (s 109 1)) (h13 : I 109 13 = nI (s 109 13)) {f : Bool} (hD : DrF s f) : ZP l D zm_X12_takeDraft 0 (zent 2 [.ref 109]) [] I (zF tw) (fun v J G => v = none ∧ G = zF tw ∧ RefA (sTk s) J ∧ zFrm I J) := by
  have hd8 := hD.1.2.2.2.1
  have hG : RefG (tk6 s) := ⟨hD.1.2.2.1, fun k hk => by
    have hk2 : k < s 112 1 := hk
    have h12 := hD.1.2.2.1
    have h8 := hD.1.2.1
    have h1 := hD.2.1 k hk2
    exact ⟨by show cpk (s 113) 12 12 k < 8; rw [cpk_lo (by omega)]; omega, by show cpk (s 114) 12 12 k < 8; rw [cpk_lo (by omega)]; omega, by show cpk (s 115) 12 12 k ≤ 20; rw [cpk_lo (by omega)]; omega⟩⟩
  have l6 : ∀ (d : Nat) (m : Nat) (K : AI), 3 * s 109 13 - m < d → m ≤ 3 * s 109 13 → RefV (tk5 s m) K → (zFrm I K ∧ K 109 1 = nI (s 109 1) ∧ K 109 13 = nI (s 109 13)) → ZP l D zm_X12_takeDraft 204 [some (.ref 109), some (.int (nI m))] [] K (zF tw) (fun v J G => v = none ∧ G = zF tw ∧ RefA (sTk s) J ∧ zFrm I J) := by
    intro d
    induction d with
    | zero =>
      intro m K hd
      exact absurd hd (by omega)
    | succ d ih =>
      intro m K hd hm hV hX
      refine P_iload_n (pc := 204) dX12_takeDraft_204 rfl ?_
      refine P_iconst (pc := 205) (x := nI 3) dX12_takeDraft_205 (by decide) ?_
      refine P_aload_n (pc := 206) dX12_takeDraft_206 rfl ?_
      refine P_geti (pc := 207) 12 13 (x := nI (s 109 13)) dX12_takeDraft_207 fl_X12_90 sh_109 fi_12_13 (hX.2.2) ?_
      refine P_imulN (pc := 210) dX12_takeDraft_210 ?_
      refine P_icmp_geN (pc := 211) (tgt := 234) dX12_takeDraft_211 (by decide) (by omega) (by omega) (fun h211 => ?_) (fun h211 => ?_)
      · have hm2 : m = 3 * s 109 13 := by omega
        subst hm2
        refine P_aload_n (pc := 234) dX12_takeDraft_234 rfl ?_
        refine P_iconst (pc := 235) (x := nI 0) dX12_takeDraft_235 (by decide) ?_
        refine P_puti (pc := 236) 12 18 dX12_takeDraft_236 fl_X12_129 sh_109 fp_12_18 rfl rfl ?_
        refine P_aload_n (pc := 239) dX12_takeDraft_239 rfl ?_
        refine P_iconst (pc := 240) (x := nI 0) dX12_takeDraft_240 (by decide) ?_
        refine P_puti (pc := 241) 12 19 dX12_takeDraft_241 fl_X12_132 sh_109 fp_12_19 rfl rfl ?_
        refine P_aload_n (pc := 244) dX12_takeDraft_244 rfl ?_
        refine P_iconst (pc := 245) (x := nI 0) dX12_takeDraft_245 (by decide) ?_
        refine P_puti (pc := 246) 12 33 dX12_takeDraft_246 fl_X12_135 sh_109 fp_12_33 rfl rfl ?_
        refine P_aload_n (pc := 249) dX12_takeDraft_249 rfl ?_
        refine P_bipush (pc := 250) (x := (-4)) dX12_takeDraft_250 (by decide) ?_
        have hV6 : RefV (tk6 s) (zu (zu (zu K 109 18 (nI 0)) 109 19 (nI 0)) 109 33 (nI 0)) := ((hV.u 109 18 0).u 109 19 0).u 109 33 0
        obtain ⟨_, J, _, km, rfl, rfl, h3⟩ := c_measure (l := l) (D := D) (tw := tw) (s := tk6 s) (w := none) hV6 hG (fun m hm => by cases hm)
        refine P_callV (pc := 252) (S := []) (As := [_]) km dX12_takeDraft_252 ok_X12_measure ml_X12_138 iv_X12_measure ⟨by decide, by decide⟩ zret_v rfl ⟨rfl, by decide⟩ sh_109 ⟨by decide, rfl⟩ (Nat.le_of_ble_eq_true rfl) ?_
        refine P_ret (pc := 255) dX12_takeDraft_255 ?_
        refine ⟨rfl, rfl, ⟨fun a k ha => ?_, fun k hk => ?_⟩, fun a ha => ?_⟩
        · show J a k = nI (va_up (va_up (tk6 s) 123 (fun k => if k < 64 then nrS (tk6 s) none k else s 123 k)) 124 (fun k => if k < 64 then zFar (nrS (tk6 s) none) k else s 124 k) a k)
          by_cases e1 : a = 124
          · subst e1
            rw [va_up_s]
            by_cases e2 : k < 64
            · simp only [if_pos e2]; exact h3.2.2.1 k e2
            · simp only [if_neg e2]; rw [(h3.2.2.2 k (by omega)).2]; exact hV6 124 k rfl
          · rw [va_up_n _ _ e1]
            by_cases e2 : a = 123
            · subst e2
              rw [va_up_s]
              by_cases e3 : k < 64
              · simp only [if_pos e3]; exact h3.2.1 k e3
              · simp only [if_neg e3]; rw [(h3.2.2.2 k (by omega)).1]; exact hV6 123 k rfl
            · rw [va_up_n _ _ e2, h3.1 a e2 e1]
              exact hV6 a k ha
        · rw [h3.1 109 (by decide) (by decide)]
          have hk4 : k = 1 ∨ k = 18 ∨ k = 19 ∨ k = 33 := by simpa [zfk, or_assoc] using hk
          rcases hk4 with rfl | rfl | rfl | rfl
          · exact hX.2.1
          · rfl
          · rfl
          · rfl
        · rw [h3.1 a (by omega) (by omega), zu_o _ _ (by omega), zu_o _ _ (by omega), zu_o _ _ (by omega)]
          exact hX.1 a ha
      · refine P_aload_n (pc := 214) dX12_takeDraft_214 rfl ?_
        refine P_getr (pc := 215) 12 17 dX12_takeDraft_215 fl_X12_47 sh_109 fr_12_17 F_109_17 ?_
        refine P_iconst (pc := 218) (x := nI 1) dX12_takeDraft_218 (by decide) ?_
        refine P_iload_n (pc := 219) dX12_takeDraft_219 rfl ?_
        refine P_iaddN (pc := 220) dX12_takeDraft_220 ?_
        refine P_aload_n (pc := 221) dX12_takeDraft_221 rfl ?_
        refine P_getr (pc := 222) 12 12 dX12_takeDraft_222 fl_X12_44 sh_109 fr_12_12 F_109_12 ?_
        refine P_iload_n (pc := 225) dX12_takeDraft_225 rfl ?_
        refine P_iald (pc := 226) (m) (x := nI (s 121 m)) dX12_takeDraft_226 sh_121 rfl (by omega) (by decide) (hV 121 m rfl) ?_
        refine P_iast (pc := 227) ((1 + m)) dX12_takeDraft_227 sh_122 rfl (by omega) (by decide) ?_
        refine P_iincN (pc := 228) (c := 1) dX12_takeDraft_228 rfl (by decide) (by decide) rfl ?_
        refine P_goto (pc := 231) (tgt := 204) dX12_takeDraft_231 (by decide) ?_
        refine ih (m + 1) _ (by omega) (by omega) ?_ ⟨(hX.1.u (by omega)), hX.2.1, hX.2.2⟩
        have h9 := hV.u 122 (1 + m) (s 121 m)
        refine h9.e (fun a k _ => ?_)
        show va_up (tk4 s 3) 122 (cps _ (s 121) (m + 1)) a k = zuN (va_up (tk4 s 3) 122 (cps _ (s 121) m)) 122 (1 + m) (s 121 m) a k
        rw [← cps_s]
        unfold zuN va_up
        by_cases e : a = 122
        · subst e; simp
        · simp [e]
  have l4 : ∀ (d : Nat) (m : Nat) (K : AI), 3 - m < d → m ≤ 3 → RefV (tk4 s m) K → (zFrm I K ∧ K 109 1 = nI (s 109 1) ∧ K 109 13 = nI (s 109 13)) → ZP l D zm_X12_takeDraft 167 [some (.ref 109), some (.int (nI m))] [] K (zF tw) (fun v J G => v = none ∧ G = zF tw ∧ RefA (sTk s) J ∧ zFrm I J) := by
    intro d
    induction d with
    | zero =>
      intro m K hd
      exact absurd hd (by omega)
    | succ d ih =>
      intro m K hd hm hV hX
      refine P_iload_n (pc := 167) dX12_takeDraft_167 rfl ?_
      refine P_iconst (pc := 168) (x := nI 3) dX12_takeDraft_168 (by decide) ?_
      refine P_icmp_geN (pc := 169) (tgt := 192) dX12_takeDraft_169 (by decide) (by omega) (by omega) (fun h169 => ?_) (fun h169 => ?_)
      · refine P_aload_n (pc := 192) dX12_takeDraft_192 rfl ?_
        refine P_getr (pc := 193) 12 17 dX12_takeDraft_193 fl_X12_47 sh_109 fr_12_17 F_109_17 ?_
        refine P_iconst (pc := 196) (x := nI 0) dX12_takeDraft_196 (by decide) ?_
        refine P_aload_n (pc := 197) dX12_takeDraft_197 rfl ?_
        refine P_geti (pc := 198) 12 13 (x := nI (s 109 13)) dX12_takeDraft_198 fl_X12_90 sh_109 fi_12_13 (hX.2.2) ?_
        refine P_iast (pc := 201) (0) dX12_takeDraft_201 sh_122 rfl (by omega) (by decide) ?_
        refine P_iconst (pc := 202) (x := nI 0) dX12_takeDraft_202 (by decide) ?_
        refine P_istore_n (pc := 203) dX12_takeDraft_203 (by decide) rfl ?_
        refine l6 (3 * s 109 13 + 1) 0 _ (by omega) (by omega) ?_ ⟨(hX.1.u (by omega)), hX.2.1, hX.2.2⟩
        have hm2 : m = 3 := by omega
        subst hm2
        have h9 := hV.u 122 0 (s 109 13)
        refine h9.e (fun a k _ => ?_)
        show va_up (tk4 s 3) 122 (cps _ (s 121) 0) a k = zuN (tk4 s 3) 122 0 (s 109 13) a k
        rw [cps_0]
        rfl
      · refine P_aload_n (pc := 172) dX12_takeDraft_172 rfl ?_
        refine P_getr (pc := 173) 12 11 dX12_takeDraft_173 fl_X12_41 sh_109 fr_12_11 F_109_11 ?_
        refine P_iload_n (pc := 176) dX12_takeDraft_176 rfl ?_
        refine P_aload_n (pc := 177) dX12_takeDraft_177 rfl ?_
        refine P_getr (pc := 178) 12 11 dX12_takeDraft_178 fl_X12_41 sh_109 fr_12_11 F_109_11 ?_
        refine P_iconst (pc := 181) (x := nI 3) dX12_takeDraft_181 (by decide) ?_
        refine P_iload_n (pc := 182) dX12_takeDraft_182 rfl ?_
        refine P_iaddN (pc := 183) dX12_takeDraft_183 ?_
        refine P_iald (pc := 184) ((3 + m)) (x := nI (s 120 (3 + m))) dX12_takeDraft_184 sh_120 rfl (by omega) (by decide) ((hV 120 _ rfl).trans (congrArg nI (cpk_hi (by omega)))) ?_
        refine P_iast (pc := 185) (m) dX12_takeDraft_185 sh_120 rfl (by omega) (by decide) ?_
        refine P_iincN (pc := 186) (c := 1) dX12_takeDraft_186 rfl (by decide) (by decide) rfl ?_
        refine P_goto (pc := 189) (tgt := 167) dX12_takeDraft_189 (by decide) ?_
        refine ih (m + 1) _ (by omega) (by omega) ?_ ⟨(hX.1.u (by omega)), hX.2.1, hX.2.2⟩
        have h9 := hV.u 120 m (s 120 (3 + m))
        refine h9.e (fun a k _ => ?_)
        show va_up (tk3 s 4) 120 (cpk (s 120) 3 (m + 1)) a k = zuN (va_up (tk3 s 4) 120 (cpk (s 120) 3 m)) 120 m (s 120 (3 + m)) a k
        rw [← cpk_s]
        unfold zuN va_up
        by_cases e : a = 120
        · subst e; simp
        · simp [e]
  have l3 : ∀ (d : Nat) (m : Nat) (K : AI), 4 - m < d → m ≤ 4 → RefV (tk3 s m) K → (zFrm I K ∧ K 109 1 = nI (s 109 1) ∧ K 109 13 = nI (s 109 13)) → ZP l D zm_X12_takeDraft 97 [some (.ref 109), some (.int (nI m))] [] K (zF tw) (fun v J G => v = none ∧ G = zF tw ∧ RefA (sTk s) J ∧ zFrm I J) := by
    intro d
    induction d with
    | zero =>
      intro m K hd
      exact absurd hd (by omega)
    | succ d ih =>
      intro m K hd hm hV hX
      refine P_iload_n (pc := 97) dX12_takeDraft_97 rfl ?_
      refine P_iconst (pc := 98) (x := nI 4) dX12_takeDraft_98 (by decide) ?_
      refine P_icmp_geN (pc := 99) (tgt := 165) dX12_takeDraft_99 (by decide) (by omega) (by omega) (fun h99 => ?_) (fun h99 => ?_)
      · refine P_iconst (pc := 165) (x := nI 0) dX12_takeDraft_165 (by decide) ?_
        refine P_istore_n (pc := 166) dX12_takeDraft_166 (by decide) rfl ?_
        refine l4 4 0 _ (by omega) (by omega) ?_ hX
        have hm2 : m = 4 := by omega
        subst hm2
        refine hV.e (fun a k _ => ?_)
        show va_up (tk3 s 4) 120 (cpk (s 120) 3 0) a k = tk3 s 4 a k
        rw [cpk_0]
        unfold va_up
        by_cases e : a = 120
        · subst e; rfl
        · simp [e]
      · refine P_aload_n (pc := 102) dX12_takeDraft_102 rfl ?_
        refine P_getr (pc := 103) 12 8 dX12_takeDraft_103 fl_X12_32 sh_109 fr_12_8 F_109_8 ?_
        refine P_iload_n (pc := 106) dX12_takeDraft_106 rfl ?_
        refine P_aload_n (pc := 107) dX12_takeDraft_107 rfl ?_
        refine P_getr (pc := 108) 12 8 dX12_takeDraft_108 fl_X12_32 sh_109 fr_12_8 F_109_8 ?_
        refine P_iconst (pc := 111) (x := nI 4) dX12_takeDraft_111 (by decide) ?_
        refine P_iload_n (pc := 112) dX12_takeDraft_112 rfl ?_
        refine P_iaddN (pc := 113) dX12_takeDraft_113 ?_
        refine P_iald (pc := 114) ((4 + m)) (x := nI (s 117 (4 + m))) dX12_takeDraft_114 sh_117 rfl (by omega) (by decide) ((hV 117 _ rfl).trans (congrArg nI (cpk_hi (by omega)))) ?_
        refine P_iast (pc := 115) (m) dX12_takeDraft_115 sh_117 rfl (by omega) (by decide) ?_
        refine P_aload_n (pc := 116) dX12_takeDraft_116 rfl ?_
        refine P_getr (pc := 117) 12 9 dX12_takeDraft_117 fl_X12_35 sh_109 fr_12_9 F_109_9 ?_
        refine P_iload_n (pc := 120) dX12_takeDraft_120 rfl ?_
        refine P_aload_n (pc := 121) dX12_takeDraft_121 rfl ?_
        refine P_getr (pc := 122) 12 9 dX12_takeDraft_122 fl_X12_35 sh_109 fr_12_9 F_109_9 ?_
        refine P_iconst (pc := 125) (x := nI 4) dX12_takeDraft_125 (by decide) ?_
        refine P_iload_n (pc := 126) dX12_takeDraft_126 rfl ?_
        refine P_iaddN (pc := 127) dX12_takeDraft_127 ?_
        refine P_iald (pc := 128) ((4 + m)) (x := nI (s 118 (4 + m))) dX12_takeDraft_128 sh_118 rfl (by omega) (by decide) ((hV 118 _ rfl).trans (congrArg nI (cpk_hi (by omega)))) ?_
        refine P_iast (pc := 129) (m) dX12_takeDraft_129 sh_118 rfl (by omega) (by decide) ?_
        refine P_aload_n (pc := 130) dX12_takeDraft_130 rfl ?_
        refine P_getr (pc := 131) 12 10 dX12_takeDraft_131 fl_X12_38 sh_109 fr_12_10 F_109_10 ?_
        refine P_iload_n (pc := 134) dX12_takeDraft_134 rfl ?_
        refine P_aload_n (pc := 135) dX12_takeDraft_135 rfl ?_
        refine P_getr (pc := 136) 12 10 dX12_takeDraft_136 fl_X12_38 sh_109 fr_12_10 F_109_10 ?_
        refine P_iconst (pc := 139) (x := nI 4) dX12_takeDraft_139 (by decide) ?_
        refine P_iload_n (pc := 140) dX12_takeDraft_140 rfl ?_
        refine P_iaddN (pc := 141) dX12_takeDraft_141 ?_
        refine P_iald (pc := 142) ((4 + m)) (x := nI (s 119 (4 + m))) dX12_takeDraft_142 sh_119 rfl (by omega) (by decide) ((hV 119 _ rfl).trans (congrArg nI (cpk_hi (by omega)))) ?_
        refine P_iast (pc := 143) (m) dX12_takeDraft_143 sh_119 rfl (by omega) (by decide) ?_
        refine P_aload_n (pc := 144) dX12_takeDraft_144 rfl ?_
        refine P_getr (pc := 145) 12 17 dX12_takeDraft_145 fl_X12_47 sh_109 fr_12_17 F_109_17 ?_
        refine P_bipush (pc := 148) (x := nI 28) dX12_takeDraft_148 (by decide) ?_
        refine P_iload_n (pc := 150) dX12_takeDraft_150 rfl ?_
        refine P_iaddN (pc := 151) dX12_takeDraft_151 ?_
        refine P_aload_n (pc := 152) dX12_takeDraft_152 rfl ?_
        refine P_getr (pc := 153) 12 10 dX12_takeDraft_153 fl_X12_38 sh_109 fr_12_10 F_109_10 ?_
        refine P_iload_n (pc := 156) dX12_takeDraft_156 rfl ?_
        refine P_iald (pc := 157) (m) (x := nI (s 119 (4 + m))) dX12_takeDraft_157 sh_119 rfl (by omega) (by decide) (zu_s _ _ _ _) ?_
        refine P_iast (pc := 158) ((28 + m)) dX12_takeDraft_158 sh_122 rfl (by omega) (by decide) ?_
        refine P_iincN (pc := 159) (c := 1) dX12_takeDraft_159 rfl (by decide) (by decide) rfl ?_
        refine P_goto (pc := 162) (tgt := 97) dX12_takeDraft_162 (by decide) ?_
        refine ih (m + 1) _ (by omega) (by omega) ?_ ⟨((((hX.1.u (by omega)).u (by omega)).u (by omega)).u (by omega)), hX.2.1, hX.2.2⟩
        have h9 := (((hV.u 117 m (s 117 (4 + m))).u 118 m (s 118 (4 + m))).u 119 m (s 119 (4 + m))).u 122 (28 + m) (s 119 (4 + m))
        refine h9.e (fun a k _ => ?_)
        show va_up (va_up (va_up (va_up (tk2 s 12) 117 (cpk (s 117) 4 (m + 1))) 118 (cpk (s 118) 4 (m + 1))) 119 (cpk (s 119) 4 (m + 1))) 122 (cpt (s 122) (fun i => s 119 (4 + i)) (m + 1)) a k = zuN (zuN (zuN (zuN (va_up (va_up (va_up (va_up (tk2 s 12) 117 (cpk (s 117) 4 m)) 118 (cpk (s 118) 4 m)) 119 (cpk (s 119) 4 m)) 122 (cpt (s 122) (fun i => s 119 (4 + i)) m)) 117 m (s 117 (4 + m))) 118 m (s 118 (4 + m))) 119 m (s 119 (4 + m))) 122 (28 + m) (s 119 (4 + m)) a k
        rw [← cpk_s, ← cpk_s, ← cpk_s, ← cpt_s]
        unfold zuN va_up
        by_cases e1 : a = 122
        · subst e1; simp
        · by_cases e2 : a = 119
          · subst e2; simp
          · by_cases e3 : a = 118
            · subst e3; simp
            · by_cases e4 : a = 117
              · subst e4; simp
              · simp [e1, e2, e3, e4]
  have l2 : ∀ (d : Nat) (m : Nat) (K : AI), 12 - m < d → m ≤ 12 → RefV (tk2 s m) K → (zFrm I K ∧ K 109 1 = nI (s 109 1) ∧ K 109 13 = nI (s 109 13)) → ZP l D zm_X12_takeDraft 38 [some (.ref 109), some (.int (nI m))] [] K (zF tw) (fun v J G => v = none ∧ G = zF tw ∧ RefA (sTk s) J ∧ zFrm I J) := by
    intro d
    induction d with
    | zero =>
      intro m K hd
      exact absurd hd (by omega)
    | succ d ih =>
      intro m K hd hm hV hX
      refine P_iload_n (pc := 38) dX12_takeDraft_38 rfl ?_
      refine P_bipush (pc := 39) (x := nI 12) dX12_takeDraft_39 (by decide) ?_
      refine P_icmp_geN (pc := 41) (tgt := 95) dX12_takeDraft_41 (by decide) (by omega) (by omega) (fun h41 => ?_) (fun h41 => ?_)
      · refine P_iconst (pc := 95) (x := nI 0) dX12_takeDraft_95 (by decide) ?_
        refine P_istore_n (pc := 96) dX12_takeDraft_96 (by decide) rfl ?_
        refine l3 5 0 _ (by omega) (by omega) ?_ hX
        have hm2 : m = 12 := by omega
        subst hm2
        refine hV.e (fun a k _ => ?_)
        show va_up (va_up (va_up (va_up (tk2 s 12) 117 (cpk (s 117) 4 0)) 118 (cpk (s 118) 4 0)) 119 (cpk (s 119) 4 0)) 122 (cpt (s 122) (fun i => s 119 (4 + i)) 0) a k = tk2 s 12 a k
        rw [cpk_0, cpk_0, cpk_0, cpt_0]
        unfold va_up
        by_cases e1 : a = 122
        · subst e1; rfl
        · by_cases e2 : a = 119
          · subst e2; rfl
          · by_cases e3 : a = 118
            · subst e3; rfl
            · by_cases e4 : a = 117
              · subst e4; rfl
              · simp [e1, e2, e3, e4]
      · refine P_aload_n (pc := 44) dX12_takeDraft_44 rfl ?_
        refine P_getr (pc := 45) 12 4 dX12_takeDraft_45 fl_X12_20 sh_109 fr_12_4 F_109_4 ?_
        refine P_iload_n (pc := 48) dX12_takeDraft_48 rfl ?_
        refine P_aload_n (pc := 49) dX12_takeDraft_49 rfl ?_
        refine P_getr (pc := 50) 12 4 dX12_takeDraft_50 fl_X12_20 sh_109 fr_12_4 F_109_4 ?_
        refine P_bipush (pc := 53) (x := nI 12) dX12_takeDraft_53 (by decide) ?_
        refine P_iload_n (pc := 55) dX12_takeDraft_55 rfl ?_
        refine P_iaddN (pc := 56) dX12_takeDraft_56 ?_
        refine P_iald (pc := 57) ((12 + m)) (x := nI (s 113 (12 + m))) dX12_takeDraft_57 sh_113 rfl (by omega) (by decide) ((hV 113 _ rfl).trans (congrArg nI (cpk_hi (by omega)))) ?_
        refine P_iast (pc := 58) (m) dX12_takeDraft_58 sh_113 rfl (by omega) (by decide) ?_
        refine P_aload_n (pc := 59) dX12_takeDraft_59 rfl ?_
        refine P_getr (pc := 60) 12 5 dX12_takeDraft_60 fl_X12_23 sh_109 fr_12_5 F_109_5 ?_
        refine P_iload_n (pc := 63) dX12_takeDraft_63 rfl ?_
        refine P_aload_n (pc := 64) dX12_takeDraft_64 rfl ?_
        refine P_getr (pc := 65) 12 5 dX12_takeDraft_65 fl_X12_23 sh_109 fr_12_5 F_109_5 ?_
        refine P_bipush (pc := 68) (x := nI 12) dX12_takeDraft_68 (by decide) ?_
        refine P_iload_n (pc := 70) dX12_takeDraft_70 rfl ?_
        refine P_iaddN (pc := 71) dX12_takeDraft_71 ?_
        refine P_iald (pc := 72) ((12 + m)) (x := nI (s 114 (12 + m))) dX12_takeDraft_72 sh_114 rfl (by omega) (by decide) ((hV 114 _ rfl).trans (congrArg nI (cpk_hi (by omega)))) ?_
        refine P_iast (pc := 73) (m) dX12_takeDraft_73 sh_114 rfl (by omega) (by decide) ?_
        refine P_aload_n (pc := 74) dX12_takeDraft_74 rfl ?_
        refine P_getr (pc := 75) 12 6 dX12_takeDraft_75 fl_X12_26 sh_109 fr_12_6 F_109_6 ?_
        refine P_iload_n (pc := 78) dX12_takeDraft_78 rfl ?_
        refine P_aload_n (pc := 79) dX12_takeDraft_79 rfl ?_
        refine P_getr (pc := 80) 12 6 dX12_takeDraft_80 fl_X12_26 sh_109 fr_12_6 F_109_6 ?_
        refine P_bipush (pc := 83) (x := nI 12) dX12_takeDraft_83 (by decide) ?_
        refine P_iload_n (pc := 85) dX12_takeDraft_85 rfl ?_
        refine P_iaddN (pc := 86) dX12_takeDraft_86 ?_
        refine P_iald (pc := 87) ((12 + m)) (x := nI (s 115 (12 + m))) dX12_takeDraft_87 sh_115 rfl (by omega) (by decide) ((hV 115 _ rfl).trans (congrArg nI (cpk_hi (by omega)))) ?_
        refine P_iast (pc := 88) (m) dX12_takeDraft_88 sh_115 rfl (by omega) (by decide) ?_
        refine P_iincN (pc := 89) (c := 1) dX12_takeDraft_89 rfl (by decide) (by decide) rfl ?_
        refine P_goto (pc := 92) (tgt := 38) dX12_takeDraft_92 (by decide) ?_
        refine ih (m + 1) _ (by omega) (by omega) ?_ ⟨(((hX.1.u (by omega)).u (by omega)).u (by omega)), hX.2.1, hX.2.2⟩
        have h9 := ((hV.u 113 m (s 113 (12 + m))).u 114 m (s 114 (12 + m))).u 115 m (s 115 (12 + m))
        refine h9.e (fun a k _ => ?_)
        show va_up (va_up (va_up (tk1 s) 113 (cpk (s 113) 12 (m + 1))) 114 (cpk (s 114) 12 (m + 1))) 115 (cpk (s 115) 12 (m + 1)) a k = zuN (zuN (zuN (va_up (va_up (va_up (tk1 s) 113 (cpk (s 113) 12 m)) 114 (cpk (s 114) 12 m)) 115 (cpk (s 115) 12 m)) 113 m (s 113 (12 + m))) 114 m (s 114 (12 + m))) 115 m (s 115 (12 + m)) a k
        rw [← cpk_s, ← cpk_s, ← cpk_s]
        unfold zuN va_up
        by_cases e1 : a = 115
        · subst e1; simp
        · by_cases e2 : a = 114
          · subst e2; simp
          · by_cases e3 : a = 113
            · subst e3; simp
            · simp [e1, e2, e3]
  show ZP _ _ _ _ [some _, none] _ _ _ _
  refine P_aload_n (pc := 0) dX12_takeDraft_0 rfl ?_
  refine P_getr (pc := 1) 12 2 dX12_takeDraft_1 fl_X12_13 sh_109 fr_12_2 F_109_2 ?_
  refine P_iconst (pc := 4) (x := nI 0) dX12_takeDraft_4 (by decide) ?_
  refine P_aload_n (pc := 5) dX12_takeDraft_5 rfl ?_
  refine P_getr (pc := 6) 12 2 dX12_takeDraft_6 fl_X12_13 sh_109 fr_12_2 F_109_2 ?_
  refine P_iconst (pc := 9) (x := nI 1) dX12_takeDraft_9 (by decide) ?_
  refine P_iald (pc := 10) (1) (x := nI (s 111 1)) dX12_takeDraft_10 sh_111 rfl (by omega) (by decide) (hR 111 _ rfl) ?_
  refine P_iast (pc := 11) (0) dX12_takeDraft_11 sh_111 rfl (by omega) (by decide) ?_
  refine P_aload_n (pc := 12) dX12_takeDraft_12 rfl ?_
  refine P_getr (pc := 13) 12 3 dX12_takeDraft_13 fl_X12_17 sh_109 fr_12_3 F_109_3 ?_
  refine P_iconst (pc := 16) (x := nI 0) dX12_takeDraft_16 (by decide) ?_
  refine P_aload_n (pc := 17) dX12_takeDraft_17 rfl ?_
  refine P_getr (pc := 18) 12 3 dX12_takeDraft_18 fl_X12_17 sh_109 fr_12_3 F_109_3 ?_
  refine P_iconst (pc := 21) (x := nI 1) dX12_takeDraft_21 (by decide) ?_
  refine P_iald (pc := 22) (1) (x := nI (s 112 1)) dX12_takeDraft_22 sh_112 rfl (by omega) (by decide) (hR 112 _ rfl) ?_
  refine P_iast (pc := 23) (0) dX12_takeDraft_23 sh_112 rfl (by omega) (by decide) ?_
  refine P_aload_n (pc := 24) dX12_takeDraft_24 rfl ?_
  refine P_getr (pc := 25) 12 7 dX12_takeDraft_25 fl_X12_29 sh_109 fr_12_7 F_109_7 ?_
  refine P_iconst (pc := 28) (x := nI 0) dX12_takeDraft_28 (by decide) ?_
  refine P_aload_n (pc := 29) dX12_takeDraft_29 rfl ?_
  refine P_getr (pc := 30) 12 7 dX12_takeDraft_30 fl_X12_29 sh_109 fr_12_7 F_109_7 ?_
  refine P_iconst (pc := 33) (x := nI 1) dX12_takeDraft_33 (by decide) ?_
  refine P_iald (pc := 34) (1) (x := nI (s 116 1)) dX12_takeDraft_34 sh_116 rfl (by omega) (by decide) (hR 116 _ rfl) ?_
  refine P_iast (pc := 35) (0) dX12_takeDraft_35 sh_116 rfl (by omega) (by decide) ?_
  refine P_iconst (pc := 36) (x := nI 0) dX12_takeDraft_36 (by decide) ?_
  refine P_istore_n (pc := 37) dX12_takeDraft_37 (by decide) rfl ?_
  refine l2 13 0 _ (by omega) (by omega) ?_ ⟨((zFrm.rf.u (by omega)).u (by omega)).u (by omega), hA1, h13⟩
  have h9 := ((hR.u 111 0 (s 111 1)).u 112 0 (s 112 1)).u 116 0 (s 116 1)
  refine h9.e (fun a k _ => ?_)
  show va_up (va_up (va_up (tk1 s) 113 (cpk (s 113) 12 0)) 114 (cpk (s 114) 12 0)) 115 (cpk (s 115) 12 0) a k = tk1 s a k
  rw [cpk_0, cpk_0, cpk_0]
  unfold va_up
  by_cases e1 : a = 115
  · subst e1; rfl
  · by_cases e2 : a = 114
    · subst e2; rfl
    · by_cases e3 : a = 113
      · subst e3; rfl
      · simp [e1, e2, e3]
theorem zFW.frm {I J : AI} (h : zFW I J) : zFrm I J := h.1
theorem Scr.A {s s2 : Nat → Nat → Nat} {I J : AI} (hS : Scr zDr s s2) (hV : RefV s2 J) (hW : zFW I J) (hA : RefA s I) : RefA s2 J := ⟨hV, fun k hk => by
  have hk4 : k = 1 ∨ k = 18 ∨ k = 19 ∨ k = 33 := by simpa [zfk, or_assoc] using hk
  rw [hW.2.2 k (by omega), hA.2 k hk, hS 109 k (by rcases hk4 with rfl | rfl | rfl | rfl <;> rfl)]⟩
theorem zPar_lt : ∀ {n : Nat} {s : Nat → Nat → Nat} {f : Bool} {p q : Nat}, s 109 1 ≤ 200 → DrF s f → zPar n s f p = .inl q → q < 200
  | 0, s, f, p, q, _, _, h => by cases h
  | n + 1, s, f, p, q, ht, hD, h => by
    unfold zPar at h
    by_cases hp : p < s 109 1
    · rw [if_pos hp] at h
      cases e : zItem s f p with
      | none => rw [e] at h; cases h; omega
      | some r =>
        rw [e] at h
        have hok := zItem_ok hD e
        exact zPar_lt (by rw [hok.2.2 109 1 rfl]; exact ht) hok.1 h
    · rw [if_neg hp] at h; cases h
set_option maxRecDepth 20000 in
theorem c_lay {l : Launch} {D : va_G} {tw : Nat} {I : AI} {s : Nat → Nat → Nat} (hA : RefA s I) (ht : s 109 1 ≤ 200) (hx : ∀ k, k < s 109 1 → s 110 k ≤ 126) : ZP l D zm_X12_lay 0 (zent 1 [.ref 109]) [] I (zF tw) (fun v J G => v = some (aLay s) ∧ G = zF tw ∧ zFrm I J ∧ ∃ s2, RefA s2 J ∧ ((aLay s = -2 ∧ Scr zDr s s2) ∨ ∃ s3 f3, zPar 201 (sIni s) true 0 = .inr s3 ∧ DrF s3 f3 ∧ ¬ s3 116 1 = 0 ∧ s2 = sTk s3 ∧ aLay s = nI (s3 111 1) ∧ Scr zDr s s3)) := by
  show ZP _ _ _ _ [some _] _ _ _ _
  refine P_aload_n (pc := 0) dX12_lay_0 rfl ?_
  obtain ⟨_, J, _, kf, rfl, rfl, hW, s2, hV2, h13, hS2, hP2⟩ := c_fault (l := l) (D := D) (tw := tw) hA.1 (hA.2 1 rfl) ht hx
  refine P_callV (pc := 1) (S := []) (As := []) kf dX12_lay_1 ok_X12_fault ml_X12_142 iv_X12_fault ⟨by decide, by decide⟩ (zret_i _) rfl ⟨rfl, by decide⟩ sh_109 ⟨by decide, rfl⟩ (Nat.le_of_ble_eq_true rfl) ?_
  rcases hz : zPar 201 (sIni s) true 0 with q | s3
  · have hfa : aFault s = nI q := by unfold aFault; rw [hz]
    have hq := zPar_lt (s := sIni s) ht (sIni_ok s) hz
    rw [hfa]
    refine P_bipush (pc := 4) (x := (-4)) dX12_lay_4 (by decide) ?_
    refine P_icmp_neT (pc := 6) (tgt := 18) dX12_lay_6 (by decide) (zne4 (by omega)) ?_
    refine P_bipush (pc := 18) (x := (-2)) dX12_lay_18 (by decide) ?_
    refine P_iret (pc := 20) dX12_lay_20 ?_
    have hla : aLay s = -2 := by unfold aLay; rw [hz]
    exact ⟨by rw [hla], rfl, hW.frm, s2, hS2.A hV2 hW hA, Or.inl ⟨hla, hS2⟩⟩
  · have hfa : aFault s = -4 := by unfold aFault; rw [hz]
    obtain ⟨e3, f3, hD3⟩ := hP2 s3 hz
    subst e3
    have hw4 := hD3.1.2.2.2.2
    rw [hfa]
    refine P_bipush (pc := 4) (x := (-4)) dX12_lay_4 (by decide) ?_
    refine P_icmp_neF (pc := 6) (tgt := 18) dX12_lay_6 (by decide) (by decide) ?_
    refine P_aload_n (pc := 9) dX12_lay_9 rfl ?_
    refine P_getr (pc := 10) 12 7 dX12_lay_10 fl_X12_29 sh_109 fr_12_7 F_109_7 ?_
    refine P_iconst (pc := 13) (x := nI 1) dX12_lay_13 (by decide) ?_
    refine P_iald (pc := 14) (1) (x := nI (s2 116 1)) dX12_lay_14 sh_116 rfl (by omega) (by decide) (hV2 116 1 rfl) ?_
    refine P_if_neN (pc := 15) (tgt := 21) dX12_lay_15 (by decide) (by omega) (fun h15 => ?_) (fun h15 => ?_)
    · refine P_aload_n (pc := 21) dX12_lay_21 rfl ?_
      obtain ⟨_, J3, _, kt, rfl, rfl, hA3, hF3⟩ := c_takeDraft (l := l) (D := D) (tw := tw) (s := s2) hV2 (by rw [hW.2.2 1 (by omega), hA.2 1 rfl, hS2 109 1 rfl]) h13 hD3
      refine P_callV (pc := 22) (S := []) (As := []) kt dX12_lay_22 ok_X12_takeDraft ml_X12_87 iv_X12_takeDraft ⟨by decide, by decide⟩ zret_v rfl ⟨rfl, by decide⟩ sh_109 ⟨by decide, rfl⟩ (Nat.le_of_ble_eq_true rfl) ?_
      refine P_aload_n (pc := 25) dX12_lay_25 rfl ?_
      refine P_getr (pc := 26) 12 2 dX12_lay_26 fl_X12_13 sh_109 fr_12_2 F_109_2 ?_
      refine P_iconst (pc := 29) (x := nI 0) dX12_lay_29 (by decide) ?_
      refine P_iald (pc := 30) (0) (x := nI (s2 111 1)) dX12_lay_30 sh_111 rfl (by omega) (by decide) (hA3.1 111 0 rfl) ?_
      refine P_iret (pc := 31) dX12_lay_31 ?_
      have hla : aLay s = nI (s2 111 1) := by unfold aLay; rw [hz]; simp only []; rw [if_neg h15]
      exact ⟨by rw [hla], rfl, hW.frm.trans hF3, _, hA3, Or.inr ⟨s2, f3, (by first | exact hz | rfl), hD3, h15, rfl, hla, hS2⟩⟩
    · refine P_bipush (pc := 18) (x := (-2)) dX12_lay_18 (by decide) ?_
      refine P_iret (pc := 20) dX12_lay_20 ?_
      have hla : aLay s = -2 := by unfold aLay; rw [hz]; simp only []; rw [if_pos h15]
      exact ⟨by rw [hla], rfl, hW.frm, s2, hS2.A hV2 hW hA, Or.inl ⟨hla, hS2⟩⟩
