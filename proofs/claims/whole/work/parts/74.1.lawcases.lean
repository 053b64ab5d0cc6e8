set_option maxRecDepth 20000 in
theorem lc_0 {fm : Value} {n : Nat} {xs : Nat → Int32} {l : Launch} {D : va_G} {Post : Option Int32 → AI → AR → Prop} {i t : Nat} {s : Nat → Nat → Nat} {I : AI} (hn : n ≤ 2048) (hi : i + 4 ≤ n) (hV : LInv t s I) (kk : ∀ (t : Nat) (s : Nat → Nat → Nat) (I : AI), LInv t s I → ZC (YL fm n xs) l D zm_L_law SH 955 (zLL i) [] I (zF t) SH Post) : ZC (YL fm n xs) l D zm_L_law SH 172 (zLL i) [] I (zF t) SH Post := by
  obtain ⟨ht, hC, hR, hA⟩ := hV
  refine C_aload_n (pc := 172) dL_law_172 rfl ?_
  refine C_aload_n (pc := 173) dL_law_173 rfl ?_
  refine C_iload_n (pc := 174) dL_law_174 rfl ?_
  refine C_iconst (pc := 175) (x := nI 1) dL_law_175 (by decide) ?_
  refine C_iadd (pc := 176) dL_law_176 ?_
  refine C_sld (pc := 177) (i + 1) dL_law_177 (nI_add i 1) (by omega) (by omega) ?_
  obtain ⟨_, J, _, k1, rfl, rfl, hC1, hg⟩ := ZP.c (Y := YL fm n xs) (s_write (l := l) (D := D) ht hC hR (x := xs (i + 1)))
  refine C_callV (pc := 178) (S := []) (As := [_]) (zYo_L fm n xs) k1 dL_law_178 ok_X11_write ml_L_13 iv_X11_write ⟨by decide, by decide⟩ (zret_i _) rfl ⟨rfl, by decide⟩ sh_0 ⟨by decide, rfl⟩ (Nat.le_of_ble_eq_true rfl) zNew.rf ?_
  have hA1 : RefA s J := hg.A hA
  refine C_aload_n (pc := 181) dL_law_181 rfl ?_
  refine C_aload_n (pc := 182) dL_law_182 rfl ?_
  refine C_iload_n (pc := 183) dL_law_183 rfl ?_
  refine C_iconst (pc := 184) (x := nI 1) dL_law_184 (by decide) ?_
  refine C_iadd (pc := 185) dL_law_185 ?_
  refine C_sld (pc := 186) (i + 1) dL_law_186 (nI_add i 1) (by omega) (by omega) ?_
  obtain ⟨_, K, _, k2, rfl, rfl, hA2, hF⟩ := ZP.c (Y := YL fm n xs) (c_write (l := l) (D := D) (tw := t) hA1 hR.2.1.2.2.2 (x := xs (i + 1)))
  refine C_callV (pc := 187) (S := [_]) (As := [_]) (zYo_L fm n xs) k2 dL_law_187 ok_X12_write ml_L_17 iv_X12_write ⟨by decide, by decide⟩ (zret_i _) rfl ⟨rfl, by decide⟩ sh_109 ⟨by decide, rfl⟩ (Nat.le_of_ble_eq_true rfl) zNew.rf ?_
  refine C_icmp_eqT (pc := 190) (tgt := 955) dL_law_190 (by decide) rfl ?_
  exact kk t (nWrite s (xs (i + 1))) K ⟨ht, hC1.frm hF ht, (hR.toWrite _), hA2⟩
set_option maxRecDepth 20000 in
theorem lc_1 {fm : Value} {n : Nat} {xs : Nat → Int32} {l : Launch} {D : va_G} {Post : Option Int32 → AI → AR → Prop} {i t : Nat} {s : Nat → Nat → Nat} {I : AI} (hn : n ≤ 2048) (hi : i + 4 ≤ n) (hV : LInv t s I) (kk : ∀ (t : Nat) (s : Nat → Nat → Nat) (I : AI), LInv t s I → ZC (YL fm n xs) l D zm_L_law SH 955 (zLL i) [] I (zF t) SH Post) : ZC (YL fm n xs) l D zm_L_law SH 195 (zLL i) [] I (zF t) SH Post := by
  obtain ⟨ht, hC, hR, hA⟩ := hV
  refine C_aload_n (pc := 195) dL_law_195 rfl ?_
  obtain ⟨_, J, _, k1, rfl, rfl, hC1, hg⟩ := ZP.c (Y := YL fm n xs) (s_wipe (l := l) (D := D) ht hC hR )
  refine C_callV (pc := 196) (S := []) (As := []) (zYo_L fm n xs) k1 dL_law_196 ok_X11_wipe ml_L_18 iv_X11_wipe ⟨by decide, by decide⟩ (zret_i _) rfl ⟨rfl, by decide⟩ sh_0 ⟨by decide, rfl⟩ (Nat.le_of_ble_eq_true rfl) zNew.rf ?_
  have hA1 : RefA s J := hg.A hA
  refine C_aload_n (pc := 199) dL_law_199 rfl ?_
  obtain ⟨_, K, _, k2, rfl, rfl, hA2, hF⟩ := ZP.c (Y := YL fm n xs) (c_wipe (l := l) (D := D) (tw := t) hA1 )
  refine C_callV (pc := 200) (S := [_]) (As := []) (zYo_L fm n xs) k2 dL_law_200 ok_X12_wipe ml_L_22 iv_X12_wipe ⟨by decide, by decide⟩ (zret_i _) rfl ⟨rfl, by decide⟩ sh_109 ⟨by decide, rfl⟩ (Nat.le_of_ble_eq_true rfl) zNew.rf ?_
  refine C_icmp_eqT (pc := 203) (tgt := 955) dL_law_203 (by decide) rfl ?_
  exact kk t (zuN s 109 1 0) K ⟨ht, hC1.frm hF ht, hR.wipe, hA2⟩
set_option maxRecDepth 20000 in
theorem lc_2 {fm : Value} {n : Nat} {xs : Nat → Int32} {l : Launch} {D : va_G} {Post : Option Int32 → AI → AR → Prop} {i t : Nat} {s : Nat → Nat → Nat} {I : AI} (hn : n ≤ 2048) (hi : i + 4 ≤ n) (hV : LInv t s I) (kk : ∀ (t : Nat) (s : Nat → Nat → Nat) (I : AI), LInv t s I → ZC (YL fm n xs) l D zm_L_law SH 955 (zLL i) [] I (zF t) SH Post) : ZC (YL fm n xs) l D zm_L_law SH 208 (zLL i) [] I (zF t) SH Post := by
  obtain ⟨ht, hC, hR, hA⟩ := hV
  refine C_aload_n (pc := 208) dL_law_208 rfl ?_
  obtain ⟨_, J, _, k1, rfl, rfl, hJ⟩ := ZP.c (Y := YL fm n xs) (s_fault (l := l) (D := D) ht hC hR )
  refine C_callV (pc := 209) (S := []) (As := []) (zYo_L fm n xs) k1 dL_law_209 ok_X11_fault ml_L_23 iv_X11_fault ⟨by decide, by decide⟩ (zret_i _) rfl ⟨rfl, by decide⟩ sh_0 ⟨by decide, rfl⟩ (Nat.le_of_ble_eq_true rfl) zNew.rf ?_
  have hC1 : CR t s J := hC.sc hJ ht
  have hA1 : RefA s J := (hJ.hg ht).A hA
  refine C_aload_n (pc := 212) dL_law_212 rfl ?_
  obtain ⟨_, K, _, k2, rfl, rfl, hW, s2, hV2, -, hScr, -⟩ := ZP.c (Y := YL fm n xs) (c_fault (l := l) (D := D) (tw := t) hA1.1 (hA1.2 1 rfl) hR.2.1.2.2.2 hR.2.2.1 )
  refine C_callV (pc := 213) (S := [_]) (As := []) (zYo_L fm n xs) k2 dL_law_213 ok_X12_fault ml_L_26 iv_X12_fault ⟨by decide, by decide⟩ (zret_i _) rfl ⟨rfl, by decide⟩ sh_109 ⟨by decide, rfl⟩ (Nat.le_of_ble_eq_true rfl) zNew.rf ?_
  refine C_icmp_eqT (pc := 216) (tgt := 955) dL_law_216 (by decide) rfl ?_
  exact kk t s2 K ⟨ht, (hC1.frm hW.1 ht).ag hR hScr.ag, hR.ag hScr.ag, Scr.A hScr hV2 hW hA1⟩
set_option maxRecDepth 20000 in
theorem lc_3 {fm : Value} {n : Nat} {xs : Nat → Int32} {l : Launch} {D : va_G} {Post : Option Int32 → AI → AR → Prop} {i t : Nat} {s : Nat → Nat → Nat} {I : AI} (hn : n ≤ 2048) (hi : i + 4 ≤ n) (hV : LInv t s I) (kk : ∀ (t : Nat) (s : Nat → Nat → Nat) (I : AI), LInv t s I → ZC (YL fm n xs) l D zm_L_law SH 955 (zLL i) [] I (zF t) SH Post) : ZC (YL fm n xs) l D zm_L_law SH 221 (zLL i) [] I (zF t) SH Post := by
  obtain ⟨ht, hC, hR, hA⟩ := hV
  refine C_aload_n (pc := 221) dL_law_221 rfl ?_
  obtain ⟨_, J, G, k1, rfl, hg, hcase⟩ := ZP.c (Y := YL fm n xs) (s_lay (l := l) (D := D) ht hC hR )
  refine C_callV (pc := 222) (S := []) (As := []) (zYo_L fm n xs) k1 dL_law_222 ok_X11_lay ml_L_27 iv_X11_lay ⟨by decide, by decide⟩ (zret_i _) rfl ⟨rfl, by decide⟩ sh_0 ⟨by decide, rfl⟩ (Nat.le_of_ble_eq_true rfl) zNew.rf ?_
  have hA1 : RefA s J := hg.A hA
  rcases hcase with ⟨ha, rfl, hC1⟩ | ⟨s3, f3, hz, hO, hscr, hw, hla, rfl, hC1⟩
  · refine C_aload_n (pc := 225) dL_law_225 rfl ?_
    obtain ⟨_, K, _, k2, rfl, rfl, hF, s2, hA2, hc2⟩ := ZP.c (Y := YL fm n xs) (c_lay (l := l) (D := D) (tw := t) hA1 hR.2.1.2.2.2 hR.2.2.1)
    refine C_callV (pc := 226) (S := [_]) (As := []) (zYo_L fm n xs) k2 dL_law_226 ok_X12_lay ml_L_30 iv_X12_lay ⟨by decide, by decide⟩ (zret_i _) rfl ⟨rfl, by decide⟩ sh_109 ⟨by decide, rfl⟩ (Nat.le_of_ble_eq_true rfl) zNew.rf ?_
    refine C_icmp_eqT (pc := 229) (tgt := 955) dL_law_229 (by decide) rfl ?_
    rcases hc2 with ⟨-, hS2⟩ | ⟨s3, f3, hz, hO, hw, he, hla, hS3⟩
    · exact kk t s2 K ⟨ht, (hC1.frm hF ht).ag hR hS2.ag, hR.ag hS2.ag, hA2⟩
    · exact absurd (hla.symm.trans ha) (zne2 hO.1.2.1)
  · refine C_aload_n (pc := 225) dL_law_225 rfl ?_
    obtain ⟨_, K, _, k2, rfl, rfl, hF, s2, hA2, hc2⟩ := ZP.c (Y := YL fm n xs) (c_lay (l := l) (D := D) (tw := (41 - t)) hA1 hR.2.1.2.2.2 hR.2.2.1)
    refine C_callV (pc := 226) (S := [_]) (As := []) (zYo_L fm n xs) k2 dL_law_226 ok_X12_lay ml_L_30 iv_X12_lay ⟨by decide, by decide⟩ (zret_i _) rfl ⟨rfl, by decide⟩ sh_109 ⟨by decide, rfl⟩ (Nat.le_of_ble_eq_true rfl) zNew.rf ?_
    refine C_icmp_eqT (pc := 229) (tgt := 955) dL_law_229 (by decide) rfl ?_
    have ht2 : 41 - t = 5 ∨ 41 - t = 36 := by omega
    rcases hc2 with ⟨h2, -⟩ | ⟨s4, f4, hz4, hO4, hw4, he, hla4, hS4⟩
    · exact absurd (hla.symm.trans h2) (zne2 hO.1.2.1)
    · have e34 : s3 = s4 := Sum.inr.inj (hz.symm.trans hz4)
      subst e34
      subst he
      refine kk (41 - t) (sTk s3) K ⟨ht2, hC1.frm hF ht2, RInv.lay hO (fun k => ?_) ?_ (fun k hk => ?_), hA2⟩
      · rw [hscr 123 k rfl, hscr 124 k rfl]
        exact ⟨hR.1.1.1.1 k, hR.1.1.1.2 k⟩
      · rw [hscr 109 1 rfl]
        exact hR.2.1.2.2.2
      · rw [hscr 109 1 rfl] at hk
        rw [hscr 110 k rfl]
        exact hR.2.2.1 k hk
set_option maxRecDepth 20000 in
theorem lc_4 {fm : Value} {n : Nat} {xs : Nat → Int32} {l : Launch} {D : va_G} {Post : Option Int32 → AI → AR → Prop} {i t : Nat} {s : Nat → Nat → Nat} {I : AI} (hn : n ≤ 2048) (hi : i + 4 ≤ n) (hV : LInv t s I) (kk : ∀ (t : Nat) (s : Nat → Nat → Nat) (I : AI), LInv t s I → ZC (YL fm n xs) l D zm_L_law SH 955 (zLL i) [] I (zF t) SH Post) : ZC (YL fm n xs) l D zm_L_law SH 234 (zLL i) [] I (zF t) SH Post := by
  obtain ⟨ht, hC, hR, hA⟩ := hV
  refine C_aload_n (pc := 234) dL_law_234 rfl ?_
  refine C_aload_n (pc := 235) dL_law_235 rfl ?_
  refine C_iload_n (pc := 236) dL_law_236 rfl ?_
  refine C_iconst (pc := 237) (x := nI 1) dL_law_237 (by decide) ?_
  refine C_iadd (pc := 238) dL_law_238 ?_
  refine C_sld (pc := 239) (i + 1) dL_law_239 (nI_add i 1) (by omega) (by omega) ?_
  refine C_aload_n (pc := 240) dL_law_240 rfl ?_
  refine C_iload_n (pc := 241) dL_law_241 rfl ?_
  refine C_iconst (pc := 242) (x := nI 2) dL_law_242 (by decide) ?_
  refine C_iadd (pc := 243) dL_law_243 ?_
  refine C_sld (pc := 244) (i + 2) dL_law_244 (nI_add i 2) (by omega) (by omega) ?_
  obtain ⟨_, _, _, k1, rfl, rfl, rfl⟩ := ZP.c (Y := YL fm n xs) (s_far (l := l) (D := D) ht hC hR (x := xs (i + 1)) (y := xs (i + 2)))
  refine C_callV (pc := 245) (S := []) (As := [_, _]) (zYo_L fm n xs) k1 dL_law_245 ok_X11_far ml_L_31 iv_X11_far ⟨by decide, by decide⟩ (zret_i _) rfl ⟨rfl, by decide⟩ sh_0 ⟨by decide, rfl⟩ (Nat.le_of_ble_eq_true rfl) zNew.rf ?_
  have hA1 := hA
  refine C_aload_n (pc := 248) dL_law_248 rfl ?_
  refine C_aload_n (pc := 249) dL_law_249 rfl ?_
  refine C_iload_n (pc := 250) dL_law_250 rfl ?_
  refine C_iconst (pc := 251) (x := nI 1) dL_law_251 (by decide) ?_
  refine C_iadd (pc := 252) dL_law_252 ?_
  refine C_sld (pc := 253) (i + 1) dL_law_253 (nI_add i 1) (by omega) (by omega) ?_
  refine C_aload_n (pc := 254) dL_law_254 rfl ?_
  refine C_iload_n (pc := 255) dL_law_255 rfl ?_
  refine C_iconst (pc := 256) (x := nI 2) dL_law_256 (by decide) ?_
  refine C_iadd (pc := 257) dL_law_257 ?_
  refine C_sld (pc := 258) (i + 2) dL_law_258 (nI_add i 2) (by omega) (by omega) ?_
  obtain ⟨_, _, _, k2, rfl, rfl, rfl⟩ := ZP.c (Y := YL fm n xs) (c_far (l := l) (D := D) (tw := t) hA1.1 hR.1.1 (x := xs (i + 1)) (y := xs (i + 2)))
  refine C_callV (pc := 259) (S := [_]) (As := [_, _]) (zYo_L fm n xs) k2 dL_law_259 ok_X12_far ml_L_35 iv_X12_far ⟨by decide, by decide⟩ (zret_i _) rfl ⟨rfl, by decide⟩ sh_109 ⟨by decide, rfl⟩ (Nat.le_of_ble_eq_true rfl) zNew.rf ?_
  refine C_icmp_eqT (pc := 262) (tgt := 955) dL_law_262 (by decide) rfl ?_
  exact kk t s I ⟨ht, hC, hR, hA⟩
set_option maxRecDepth 20000 in
theorem lc_5 {fm : Value} {n : Nat} {xs : Nat → Int32} {l : Launch} {D : va_G} {Post : Option Int32 → AI → AR → Prop} {i t : Nat} {s : Nat → Nat → Nat} {I : AI} (hn : n ≤ 2048) (hi : i + 4 ≤ n) (hV : LInv t s I) (kk : ∀ (t : Nat) (s : Nat → Nat → Nat) (I : AI), LInv t s I → ZC (YL fm n xs) l D zm_L_law SH 955 (zLL i) [] I (zF t) SH Post) : ZC (YL fm n xs) l D zm_L_law SH 267 (zLL i) [] I (zF t) SH Post := by
  obtain ⟨ht, hC, hR, hA⟩ := hV
  refine C_aload_n (pc := 267) dL_law_267 rfl ?_
  refine C_aload_n (pc := 268) dL_law_268 rfl ?_
  refine C_iload_n (pc := 269) dL_law_269 rfl ?_
  refine C_iconst (pc := 270) (x := nI 1) dL_law_270 (by decide) ?_
  refine C_iadd (pc := 271) dL_law_271 ?_
  refine C_sld (pc := 272) (i + 1) dL_law_272 (nI_add i 1) (by omega) (by omega) ?_
  refine C_aload_n (pc := 273) dL_law_273 rfl ?_
  refine C_iload_n (pc := 274) dL_law_274 rfl ?_
  refine C_iconst (pc := 275) (x := nI 2) dL_law_275 (by decide) ?_
  refine C_iadd (pc := 276) dL_law_276 ?_
  refine C_sld (pc := 277) (i + 2) dL_law_277 (nI_add i 2) (by omega) (by omega) ?_
  obtain ⟨_, _, _, k1, rfl, rfl, rfl⟩ := ZP.c (Y := YL fm n xs) (s_street (l := l) (D := D) ht hC hR (x := xs (i + 1)) (y := xs (i + 2)))
  refine C_callV (pc := 278) (S := []) (As := [_, _]) (zYo_L fm n xs) k1 dL_law_278 ok_X11_street ml_L_36 iv_X11_street ⟨by decide, by decide⟩ (zret_i _) rfl ⟨rfl, by decide⟩ sh_0 ⟨by decide, rfl⟩ (Nat.le_of_ble_eq_true rfl) zNew.rf ?_
  have hA1 := hA
  refine C_aload_n (pc := 281) dL_law_281 rfl ?_
  refine C_aload_n (pc := 282) dL_law_282 rfl ?_
  refine C_iload_n (pc := 283) dL_law_283 rfl ?_
  refine C_iconst (pc := 284) (x := nI 1) dL_law_284 (by decide) ?_
  refine C_iadd (pc := 285) dL_law_285 ?_
  refine C_sld (pc := 286) (i + 1) dL_law_286 (nI_add i 1) (by omega) (by omega) ?_
  refine C_aload_n (pc := 287) dL_law_287 rfl ?_
  refine C_iload_n (pc := 288) dL_law_288 rfl ?_
  refine C_iconst (pc := 289) (x := nI 2) dL_law_289 (by decide) ?_
  refine C_iadd (pc := 290) dL_law_290 ?_
  refine C_sld (pc := 291) (i + 2) dL_law_291 (nI_add i 2) (by omega) (by omega) ?_
  obtain ⟨_, _, _, k2, rfl, rfl, rfl⟩ := ZP.c (Y := YL fm n xs) (c_street (l := l) (D := D) (tw := t) hA1.1 hR.1.1 (x := xs (i + 1)) (y := xs (i + 2)))
  refine C_callV (pc := 292) (S := [_]) (As := [_, _]) (zYo_L fm n xs) k2 dL_law_292 ok_X12_street ml_L_39 iv_X12_street ⟨by decide, by decide⟩ (zret_i _) rfl ⟨rfl, by decide⟩ sh_109 ⟨by decide, rfl⟩ (Nat.le_of_ble_eq_true rfl) zNew.rf ?_
  refine C_icmp_eqT (pc := 295) (tgt := 955) dL_law_295 (by decide) rfl ?_
  exact kk t s I ⟨ht, hC, hR, hA⟩
set_option maxRecDepth 20000 in
theorem lc_6 {fm : Value} {n : Nat} {xs : Nat → Int32} {l : Launch} {D : va_G} {Post : Option Int32 → AI → AR → Prop} {i t : Nat} {s : Nat → Nat → Nat} {I : AI} (hn : n ≤ 2048) (hi : i + 4 ≤ n) (hV : LInv t s I) (kk : ∀ (t : Nat) (s : Nat → Nat → Nat) (I : AI), LInv t s I → ZC (YL fm n xs) l D zm_L_law SH 955 (zLL i) [] I (zF t) SH Post) : ZC (YL fm n xs) l D zm_L_law SH 300 (zLL i) [] I (zF t) SH Post := by
  obtain ⟨ht, hC, hR, hA⟩ := hV
  refine C_aload_n (pc := 300) dL_law_300 rfl ?_
  refine C_aload_n (pc := 301) dL_law_301 rfl ?_
  refine C_iload_n (pc := 302) dL_law_302 rfl ?_
  refine C_iconst (pc := 303) (x := nI 1) dL_law_303 (by decide) ?_
  refine C_iadd (pc := 304) dL_law_304 ?_
  refine C_sld (pc := 305) (i + 1) dL_law_305 (nI_add i 1) (by omega) (by omega) ?_
  refine C_aload_n (pc := 306) dL_law_306 rfl ?_
  refine C_iload_n (pc := 307) dL_law_307 rfl ?_
  refine C_iconst (pc := 308) (x := nI 2) dL_law_308 (by decide) ?_
  refine C_iadd (pc := 309) dL_law_309 ?_
  refine C_sld (pc := 310) (i + 2) dL_law_310 (nI_add i 2) (by omega) (by omega) ?_
  obtain ⟨_, _, _, k1, rfl, rfl, rfl⟩ := ZP.c (Y := YL fm n xs) (s_sign (l := l) (D := D) ht hC hR (x := xs (i + 1)) (y := xs (i + 2)))
  refine C_callV (pc := 311) (S := []) (As := [_, _]) (zYo_L fm n xs) k1 dL_law_311 ok_X11_sign ml_L_40 iv_X11_sign ⟨by decide, by decide⟩ (zret_i _) rfl ⟨rfl, by decide⟩ sh_0 ⟨by decide, rfl⟩ (Nat.le_of_ble_eq_true rfl) zNew.rf ?_
  have hA1 := hA
  refine C_aload_n (pc := 314) dL_law_314 rfl ?_
  refine C_aload_n (pc := 315) dL_law_315 rfl ?_
  refine C_iload_n (pc := 316) dL_law_316 rfl ?_
  refine C_iconst (pc := 317) (x := nI 1) dL_law_317 (by decide) ?_
  refine C_iadd (pc := 318) dL_law_318 ?_
  refine C_sld (pc := 319) (i + 1) dL_law_319 (nI_add i 1) (by omega) (by omega) ?_
  refine C_aload_n (pc := 320) dL_law_320 rfl ?_
  refine C_iload_n (pc := 321) dL_law_321 rfl ?_
  refine C_iconst (pc := 322) (x := nI 2) dL_law_322 (by decide) ?_
  refine C_iadd (pc := 323) dL_law_323 ?_
  refine C_sld (pc := 324) (i + 2) dL_law_324 (nI_add i 2) (by omega) (by omega) ?_
  obtain ⟨_, _, _, k2, rfl, rfl, rfl⟩ := ZP.c (Y := YL fm n xs) (c_sign (l := l) (D := D) (tw := t) hA1.1 hR.1.1 hR.1.2.2.1.2.1 (x := xs (i + 1)) (y := xs (i + 2)))
  refine C_callV (pc := 325) (S := [_]) (As := [_, _]) (zYo_L fm n xs) k2 dL_law_325 ok_X12_sign ml_L_43 iv_X12_sign ⟨by decide, by decide⟩ (zret_i _) rfl ⟨rfl, by decide⟩ sh_109 ⟨by decide, rfl⟩ (Nat.le_of_ble_eq_true rfl) zNew.rf ?_
  refine C_icmp_eqT (pc := 328) (tgt := 955) dL_law_328 (by decide) rfl ?_
  exact kk t s I ⟨ht, hC, hR, hA⟩
set_option maxRecDepth 20000 in
theorem lc_7 {fm : Value} {n : Nat} {xs : Nat → Int32} {l : Launch} {D : va_G} {Post : Option Int32 → AI → AR → Prop} {i t : Nat} {s : Nat → Nat → Nat} {I : AI} (hn : n ≤ 2048) (hi : i + 4 ≤ n) (hV : LInv t s I) (kk : ∀ (t : Nat) (s : Nat → Nat → Nat) (I : AI), LInv t s I → ZC (YL fm n xs) l D zm_L_law SH 955 (zLL i) [] I (zF t) SH Post) : ZC (YL fm n xs) l D zm_L_law SH 333 (zLL i) [] I (zF t) SH Post := by
  obtain ⟨ht, hC, hR, hA⟩ := hV
  refine C_aload_n (pc := 333) dL_law_333 rfl ?_
  refine C_aload_n (pc := 334) dL_law_334 rfl ?_
  refine C_iload_n (pc := 335) dL_law_335 rfl ?_
  refine C_iconst (pc := 336) (x := nI 1) dL_law_336 (by decide) ?_
  refine C_iadd (pc := 337) dL_law_337 ?_
  refine C_sld (pc := 338) (i + 1) dL_law_338 (nI_add i 1) (by omega) (by omega) ?_
  refine C_aload_n (pc := 339) dL_law_339 rfl ?_
  refine C_iload_n (pc := 340) dL_law_340 rfl ?_
  refine C_iconst (pc := 341) (x := nI 2) dL_law_341 (by decide) ?_
  refine C_iadd (pc := 342) dL_law_342 ?_
  refine C_sld (pc := 343) (i + 2) dL_law_343 (nI_add i 2) (by omega) (by omega) ?_
  obtain ⟨_, _, _, k1, rfl, rfl, rfl⟩ := ZP.c (Y := YL fm n xs) (s_walker (l := l) (D := D) ht hC hR (x := xs (i + 1)) (y := xs (i + 2)))
  refine C_callV (pc := 344) (S := []) (As := [_, _]) (zYo_L fm n xs) k1 dL_law_344 ok_X11_walker ml_L_44 iv_X11_walker ⟨by decide, by decide⟩ (zret_i _) rfl ⟨rfl, by decide⟩ sh_0 ⟨by decide, rfl⟩ (Nat.le_of_ble_eq_true rfl) zNew.rf ?_
  have hA1 := hA
  refine C_aload_n (pc := 347) dL_law_347 rfl ?_
  refine C_aload_n (pc := 348) dL_law_348 rfl ?_
  refine C_iload_n (pc := 349) dL_law_349 rfl ?_
  refine C_iconst (pc := 350) (x := nI 1) dL_law_350 (by decide) ?_
  refine C_iadd (pc := 351) dL_law_351 ?_
  refine C_sld (pc := 352) (i + 1) dL_law_352 (nI_add i 1) (by omega) (by omega) ?_
  refine C_aload_n (pc := 353) dL_law_353 rfl ?_
  refine C_iload_n (pc := 354) dL_law_354 rfl ?_
  refine C_iconst (pc := 355) (x := nI 2) dL_law_355 (by decide) ?_
  refine C_iadd (pc := 356) dL_law_356 ?_
  refine C_sld (pc := 357) (i + 2) dL_law_357 (nI_add i 2) (by omega) (by omega) ?_
  obtain ⟨_, _, _, k2, rfl, rfl, rfl⟩ := ZP.c (Y := YL fm n xs) (c_walker (l := l) (D := D) (tw := t) hA1.1 hR.1.1 hR.1.2.1 (x := xs (i + 1)) (y := xs (i + 2)))
  refine C_callV (pc := 358) (S := [_]) (As := [_, _]) (zYo_L fm n xs) k2 dL_law_358 ok_X12_walker ml_L_47 iv_X12_walker ⟨by decide, by decide⟩ (zret_i _) rfl ⟨rfl, by decide⟩ sh_109 ⟨by decide, rfl⟩ (Nat.le_of_ble_eq_true rfl) zNew.rf ?_
  refine C_icmp_eqT (pc := 361) (tgt := 955) dL_law_361 (by decide) rfl ?_
  exact kk t s I ⟨ht, hC, hR, hA⟩
