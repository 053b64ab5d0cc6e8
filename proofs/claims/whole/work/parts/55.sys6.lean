set_option maxRecDepth 20000 in
theorem c_fill {l : Launch} {D : va_G} {tw : Nat} {I : AI} {a n : Nat} {x : Int32} (hs : SH[a]? = some (15, n)) (hn : n < 2 ^ 31) : ZP l D zm_J7_fill_53178 0 (zent 4 [.ref a, .int x]) [] I (zF tw) (fun v J G => v = none ∧ G = zF tw ∧ (∀ b, b ≠ a → J b = I b) ∧ ∀ j, j < n → J a j = x) := by
  have loop : ∀ (d : Nat) (k : Nat) (J : AI), n - k < d → k ≤ n → (∀ b, b ≠ a → J b = I b) → (∀ j, j < k → J a j = x) → ZP l D zm_J7_fill_53178 5 [some (.ref a), some (.int x), some (.int (nI k)), some (.int (nI n))] [] J (zF tw) (fun v J G => v = none ∧ G = zF tw ∧ (∀ b, b ≠ a → J b = I b) ∧ ∀ j, j < n → J a j = x) := by
    intro d
    induction d with
    | zero =>
      intro k J hd
      exact absurd hd (by omega)
    | succ d ih =>
      intro k J hd hk hF hx
      refine P_iload_n (pc := 5) dJ7_fill_53178_5 rfl ?_
      refine P_iload_n (pc := 6) dJ7_fill_53178_6 rfl ?_
      refine P_icmp_geN (pc := 7) (tgt := 20) dJ7_fill_53178_7 (by decide) (by omega) (by omega) (fun h7 => ?_) (fun h7 => ?_)
      · exact P_ret (pc := 20) dJ7_fill_53178_20 (⟨rfl, rfl, hF, fun j hj => hx j (by omega)⟩)
      · refine P_aload_n (pc := 10) dJ7_fill_53178_10 rfl ?_
        refine P_iload_n (pc := 11) dJ7_fill_53178_11 rfl ?_
        refine P_iload_n (pc := 12) dJ7_fill_53178_12 rfl ?_
        refine P_iast (pc := 13) (k) dJ7_fill_53178_13 hs rfl (by omega) hn ?_
        refine P_iincN (pc := 14) (c := 1) dJ7_fill_53178_14 rfl (by decide) (by decide) rfl ?_
        refine P_goto (pc := 17) (tgt := 5) dJ7_fill_53178_17 (by decide) ?_
        exact ih (k + 1) _ (by omega) (by omega) (fun b hb => (zu_o _ _ hb).trans (hF b hb)) (fun j hj => by
          by_cases e : j = k
          · rw [e]; exact zu_s _ _ _ _
          · rw [zu_n _ _ e]; exact hx j (by omega))
  show ZP _ _ _ _ [some _, some _, none, none] _ _ _ _
  refine P_iconst (pc := 0) (x := nI 0) dJ7_fill_53178_0 (by decide) ?_
  refine P_istore_n (pc := 1) dJ7_fill_53178_1 (by decide) rfl ?_
  refine P_aload_n (pc := 2) dJ7_fill_53178_2 rfl ?_
  refine P_alen (pc := 3) (x := nI n) dJ7_fill_53178_3 hs (by decide) (by decide) rfl ?_
  refine P_istore_n (pc := 4) dJ7_fill_53178_4 (by decide) rfl ?_
  exact loop (n + 1) 0 I (by omega) (by omega) (fun _ _ => rfl) (fun j hj => by omega)
/-- the rows from rb on hold these numbers, where none is -4 -/
def zRw (rb : Nat) (f : Nat → Nat → Nat) (I : AI) : Prop := ∀ a b, a < 8 → b < 8 → I (rb + a) b = zds (f a b)
/-- only they are written -/
def zRf (rb : Nat) (I J : AI) : Prop := ∀ a, (a < rb ∨ rb + 8 ≤ a) → J a = I a
theorem zRf.rf {rb : Nat} {I : AI} : zRf rb I I := fun _ _ => rfl
theorem zRf.u {rb : Nat} {I J : AI} (h : zRf rb I J) {c k : Nat} {x : Int32} (hc : c < 8) : zRf rb I (zu J (rb + c) k x) := fun a ha => by rw [zu_o _ _ (by omega)]; exact h a ha
theorem zRf.trans {rb : Nat} {I J K : AI} (h : zRf rb I J) (h2 : zRf rb J K) : zRf rb I K := fun a ha => (h2 a ha).trans (h a ha)
/-- one place of the rows set -/
theorem zRw.u {rb : Nat} {f g : Nat → Nat → Nat} {I : AI} (h : zRw rb f I) {c k : Nat} {x : Int32} (hc : c < 8) (hk : k < 8) (hx : x = zds (g c k)) (hg : ∀ a b, a < 8 → b < 8 → ¬ (a = c ∧ b = k) → g a b = f a b) : zRw rb g (zu I (rb + c) k x) := by
  intro a b ha hb
  by_cases e : a = c
  · subst e
    by_cases e2 : b = k
    · subst e2; rw [zu_s]; exact hx
    · rw [zu_n _ _ e2, hg a b ha hb (by omega)]; exact h a b ha hb
  · rw [zu_o _ _ (by omega), hg a b ha hb (by omega)]; exact h a b ha hb
theorem zRw.c {rb : Nat} {f g : Nat → Nat → Nat} {I : AI} (h : zRw rb f I) (hg : ∀ a b, a < 8 → b < 8 → g a b = f a b) : zRw rb g I := fun a b ha hb => by rw [hg a b ha hb]; exact h a b ha hb
/-- how the rows stand while corner m is tried: row a to b -/
def zMx (nr : Nat → Nat) (m a b x y : Nat) : Nat := if x < a ∨ (x = a ∧ y < b) then zD nr (m + 1) x y else zD nr m x y
theorem zMx_l {nr : Nat → Nat} {m a b y : Nat} : zMx nr m a b m y = zD nr m m y := by unfold zMx; split <;> first | exact zD_l | rfl
theorem zMx_r {nr : Nat → Nat} {m a b x : Nat} : zMx nr m a b x m = zD nr m x m := by unfold zMx; split <;> first | exact zD_r | rfl
theorem zMx_h {nr : Nat → Nat} {m a b : Nat} : zMx nr m a b a b = zD nr m a b := by unfold zMx; rw [if_neg (by omega)]
theorem zMx_b {nr : Nat → Nat} {m a b x y : Nat} (h : ¬ (x = a ∧ y = b)) : zMx nr m a (b + 1) x y = zMx nr m a b x y := by
  unfold zMx
  by_cases e : x < a ∨ (x = a ∧ y < b)
  · rw [if_pos e, if_pos (by omega)]
  · rw [if_neg e, if_neg (by omega)]
theorem zMx_n {nr : Nat → Nat} {m a b : Nat} : zMx nr m a (b + 1) a b = zD nr (m + 1) a b := by unfold zMx; rw [if_pos (by omega)]
theorem zMx_a {nc : Nat} {nr : Nat → Nat} (h : zNg nc nr) {m a b x y : Nat} (hm : m < 8) (hx : x < 8) (hy : y < 8) (hb : ∀ q, b ≤ q → q < 8 → zD nr (m + 1) a q = zD nr m a q) : zMx nr m (a + 1) 0 x y = zMx nr m a b x y := by
  unfold zMx
  by_cases e : x < a
  · rw [if_pos (by omega), if_pos (by omega)]
  · by_cases e2 : x = a
    · subst e2
      rw [if_pos (by omega)]
      by_cases e3 : y < b
      · rw [if_pos (by omega)]
      · rw [if_neg (by omega)]; exact hb y (by omega) hy
    · rw [if_neg (by omega), if_neg (by omega)]
set_option maxRecDepth 20000 in
theorem c_shortenBy_5_18 {l : Launch} {D : va_G} {tw : Nat} {I : AI} {nc m : Nat} {nr : Nat → Nat} (hnc : I 6 0 = nI nc) (hnc8 : nc ≤ 8) (hN : zNg nc nr) (hm : m < nc) (hR0 : zRw 19 (zD nr m) I) : ZP l D zm_X6_shortenBy 0 (zent 7 [.ref 6, .ref 18, .int (nI m)]) [] I (zF tw) (fun v J G => v = none ∧ G = zF tw ∧ zRf 19 I J ∧ zRw 19 (zD nr (m + 1)) J) := by
  have loop : ∀ (d : Nat) (a : Nat) (v4 v5 v6 : Option Value) (J : AI), nc - a < d → a ≤ nc → zRf 19 I J → zRw 19 (zMx nr m a 0) J → ZP l D zm_X6_shortenBy 2 [some (.ref 6), some (.ref 18), some (.int (nI m)), some (.int (nI a)), v4, v5, v6] [] J (zF tw) (fun v J G => v = none ∧ G = zF tw ∧ zRf 19 I J ∧ zRw 19 (zD nr (m + 1)) J) := by
    intro d
    induction d with
    | zero =>
      intro a v4 v5 v6 J hd
      exact absurd hd (by omega)
    | succ d ih =>
      intro a v4 v5 v6 J hd ha hF hR
      refine P_iload_n (pc := 2) dX6_shortenBy_2 rfl ?_
      refine P_aload_n (pc := 3) dX6_shortenBy_3 rfl ?_
      refine P_geti (pc := 4) 6 0 (x := nI (nc)) dX6_shortenBy_4 fl_X6_26 sh_6 fi_6_0 ((congrFun (hF 6 (by decide)) 0).trans hnc) ?_
      refine P_icmp_geN (pc := 7) (tgt := 99) dX6_shortenBy_7 (by decide) (by omega) (by omega) (fun h7 => ?_) (fun h7 => ?_)
      · exact P_ret (pc := 99) dX6_shortenBy_99 (⟨rfl, rfl, hF, hR.c (fun x y hx hy => by
  unfold zMx
  by_cases e : x < a
  · rw [if_pos (by omega)]
  · rw [if_neg (by omega)]; exact zD_keep hN hx hy (by omega) (Or.inl (by omega)))⟩)
      · refine P_aload_n (pc := 10) dX6_shortenBy_10 rfl ?_
        refine P_iload_n (pc := 11) dX6_shortenBy_11 rfl ?_
        refine P_aald (pc := 12) (a) dX6_shortenBy_12 sh_18 (by decide) rfl (by omega) (by decide) (Fr_18 _ (by omega)) ?_
        refine P_iload_n (pc := 13) dX6_shortenBy_13 rfl ?_
        refine P_iald (pc := 14) (m) (x := zds (zMx nr m a 0 a m)) dX6_shortenBy_14 (shr_19 _ (by omega)) rfl (by omega) (by decide) (hR _ _ (by omega) (by omega)) ?_
        rw [zMx_r]
        have hend : ∀ (b : Nat) (v4 v6 : Option Value) (J : AI), b ≤ 8 → zRf 19 I J → zRw 19 (zMx nr m a b) J → (∀ q, b ≤ q → q < 8 → zD nr (m + 1) a q = zD nr m a q) → ZP l D zm_X6_shortenBy 93 [some (.ref 6), some (.ref 18), some (.int (nI m)), some (.int (nI a)), v4, some (.int (nI b)), v6] [] J (zF tw) (fun v J G => v = none ∧ G = zF tw ∧ zRf 19 I J ∧ zRw 19 (zD nr (m + 1)) J) := by
          intro b v4 v6 J hb hF hR hq
          refine P_iincN (pc := 93) (c := 1) dX6_shortenBy_93 rfl (by decide) (by decide) rfl ?_
          refine P_goto (pc := 96) (tgt := 2) dX6_shortenBy_96 (by decide) ?_
          exact ih (a + 1) _ _ _ J (by omega) (by omega) hF (hR.c (fun x y hx hy => zMx_a hN (by omega) hx hy hq))
        by_cases h1 : zD nr m a m < 10000
        · rw [zds_lt h1]
          refine P_istore (pc := 15) dX6_shortenBy_15 (by decide) rfl ?_
          refine P_iconst (pc := 17) (x := nI 0) dX6_shortenBy_17 (by decide) ?_
          refine P_istore (pc := 18) dX6_shortenBy_18 (by decide) rfl ?_
          have loopB : ∀ (d2 : Nat) (b : Nat) (v6 : Option Value) (J : AI), nc - b < d2 → b ≤ nc → zRf 19 I J → zRw 19 (zMx nr m a b) J → ZP l D zm_X6_shortenBy 20 [some (.ref 6), some (.ref 18), some (.int (nI m)), some (.int (nI a)), some (.int (nI (zD nr m a m))), some (.int (nI b)), v6] [] J (zF tw) (fun v J G => v = none ∧ G = zF tw ∧ zRf 19 I J ∧ zRw 19 (zD nr (m + 1)) J) := by
            intro d2
            induction d2 with
            | zero =>
              intro b v6 J hd2
              exact absurd hd2 (by omega)
            | succ d2 ihb =>
              intro b v6 J hd2 hb hF hR
              refine P_iload (pc := 20) dX6_shortenBy_20 rfl ?_
              refine P_aload_n (pc := 22) dX6_shortenBy_22 rfl ?_
              refine P_geti (pc := 23) 6 0 (x := nI (nc)) dX6_shortenBy_23 fl_X6_26 sh_6 fi_6_0 ((congrFun (hF 6 (by decide)) 0).trans hnc) ?_
              refine P_icmp_geN (pc := 26) (tgt := 93) dX6_shortenBy_26 (by decide) (by omega) (by omega) (fun h26 => ?_) (fun h26 => ?_)
              · exact hend b _ _ J (by omega) hF hR (fun q h8 h9 => zD_keep hN (by omega) h9 (by omega) (Or.inr (by omega)))
              · refine P_iload (pc := 29) dX6_shortenBy_29 rfl ?_
                refine P_bipush (pc := 31) (x := (-4)) dX6_shortenBy_31 (by decide) ?_
                refine P_icmp_eqF (pc := 33) (tgt := 93) dX6_shortenBy_33 (by decide) (zne4 (by omega)) ?_
                refine P_aload_n (pc := 36) dX6_shortenBy_36 rfl ?_
                refine P_iload_n (pc := 37) dX6_shortenBy_37 rfl ?_
                refine P_aald (pc := 38) (m) dX6_shortenBy_38 sh_18 (by decide) rfl (by omega) (by decide) (Fr_18 _ (by omega)) ?_
                refine P_iload (pc := 39) dX6_shortenBy_39 rfl ?_
                refine P_iald (pc := 41) (b) (x := zds (zMx nr m a b m b)) dX6_shortenBy_41 (shr_19 _ (by omega)) rfl (by omega) (by decide) (hR _ _ (by omega) (by omega)) ?_
                rw [zMx_l]
                by_cases h2 : zD nr m m b < 10000
                · rw [zds_lt h2]
                  have hv := zD_via hN.2.1 (m := m) (a := a) (b := b) (by omega) h1 h2
                  have hle := zD_le hN.1 (a := a) (b := b) m
                  by_cases h3 : zD nr m a b < 10000
                  · refine P_istore (pc := 42) dX6_shortenBy_42 (by decide) rfl ?_
                    refine P_iload (pc := 44) dX6_shortenBy_44 rfl ?_
                    refine P_bipush (pc := 46) (x := (-4)) dX6_shortenBy_46 (by decide) ?_
                    refine P_icmp_eqF (pc := 48) (tgt := 87) dX6_shortenBy_48 (by decide) (zne4 (by omega)) ?_
                    refine P_aload_n (pc := 51) dX6_shortenBy_51 rfl ?_
                    refine P_iload_n (pc := 52) dX6_shortenBy_52 rfl ?_
                    refine P_aald (pc := 53) (a) dX6_shortenBy_53 sh_18 (by decide) rfl (by omega) (by decide) (Fr_18 _ (by omega)) ?_
                    refine P_iload (pc := 54) dX6_shortenBy_54 rfl ?_
                    refine P_iald (pc := 56) (b) (x := nI (zD nr m a b)) dX6_shortenBy_56 (shr_19 _ (by omega)) rfl (by omega) (by decide) ((hR _ _ (by omega) (by omega)).trans (by rw [zMx_h]; exact zds_lt h3)) ?_
                    refine P_bipush (pc := 57) (x := (-4)) dX6_shortenBy_57 (by decide) ?_
                    refine P_icmp_eqF (pc := 59) (tgt := 76) dX6_shortenBy_59 (by decide) (zne4 (by omega)) ?_
                    refine P_iload (pc := 62) dX6_shortenBy_62 rfl ?_
                    refine P_iload (pc := 64) dX6_shortenBy_64 rfl ?_
                    refine P_iaddN (pc := 66) dX6_shortenBy_66 ?_
                    refine P_aload_n (pc := 67) dX6_shortenBy_67 rfl ?_
                    refine P_iload_n (pc := 68) dX6_shortenBy_68 rfl ?_
                    refine P_aald (pc := 69) (a) dX6_shortenBy_69 sh_18 (by decide) rfl (by omega) (by decide) (Fr_18 _ (by omega)) ?_
                    refine P_iload (pc := 70) dX6_shortenBy_70 rfl ?_
                    refine P_iald (pc := 72) (b) (x := nI (zD nr m a b)) dX6_shortenBy_72 (shr_19 _ (by omega)) rfl (by omega) (by decide) ((hR _ _ (by omega) (by omega)).trans (by rw [zMx_h]; exact zds_lt h3)) ?_
                    refine P_icmp_geN (pc := 73) (tgt := 87) dX6_shortenBy_73 (by decide) (by omega) (by omega) (fun h73 => ?_) (fun h73 => ?_)
                    · refine P_iincN (pc := 87) (c := 1) dX6_shortenBy_87 rfl (by decide) (by decide) rfl ?_
                      refine P_goto (pc := 90) (tgt := 20) dX6_shortenBy_90 (by decide) ?_
                      exact ihb (b + 1) _ _ (by omega) (by omega) hF (hR.c (fun x y hx hy => by
                        by_cases e : x = a ∧ y = b
                        · rw [e.1, e.2, zMx_n, zMx_h]; rw [zD_s]; exact Nat.min_eq_left (by omega)
                        · exact zMx_b e))
                    · refine P_aload_n (pc := 76) dX6_shortenBy_76 rfl ?_
                      refine P_iload_n (pc := 77) dX6_shortenBy_77 rfl ?_
                      refine P_aald (pc := 78) (a) dX6_shortenBy_78 sh_18 (by decide) rfl (by omega) (by decide) (Fr_18 _ (by omega)) ?_
                      refine P_iload (pc := 79) dX6_shortenBy_79 rfl ?_
                      refine P_iload (pc := 81) dX6_shortenBy_81 rfl ?_
                      refine P_iload (pc := 83) dX6_shortenBy_83 rfl ?_
                      refine P_iaddN (pc := 85) dX6_shortenBy_85 ?_
                      refine P_iast (pc := 86) (b) dX6_shortenBy_86 (shr_19 _ (by omega)) rfl (by omega) (by decide) ?_
                      refine P_iincN (pc := 87) (c := 1) dX6_shortenBy_87 rfl (by decide) (by decide) rfl ?_
                      refine P_goto (pc := 90) (tgt := 20) dX6_shortenBy_90 (by decide) ?_
                      exact ihb (b + 1) _ _ (by omega) (by omega) (hF.u (by omega)) (hR.u (by omega) (by omega) (by rw [zMx_n, zds_lt (by rw [zD_s]; omega)]; exact congrArg nI (by rw [zD_s, Nat.min_eq_right (by omega)])) (fun x y hx hy e => zMx_b e))
                  · refine P_istore (pc := 42) dX6_shortenBy_42 (by decide) rfl ?_
                    refine P_iload (pc := 44) dX6_shortenBy_44 rfl ?_
                    refine P_bipush (pc := 46) (x := (-4)) dX6_shortenBy_46 (by decide) ?_
                    refine P_icmp_eqF (pc := 48) (tgt := 87) dX6_shortenBy_48 (by decide) (zne4 (by omega)) ?_
                    refine P_aload_n (pc := 51) dX6_shortenBy_51 rfl ?_
                    refine P_iload_n (pc := 52) dX6_shortenBy_52 rfl ?_
                    refine P_aald (pc := 53) (a) dX6_shortenBy_53 sh_18 (by decide) rfl (by omega) (by decide) (Fr_18 _ (by omega)) ?_
                    refine P_iload (pc := 54) dX6_shortenBy_54 rfl ?_
                    refine P_iald (pc := 56) (b) (x := (-4)) dX6_shortenBy_56 (shr_19 _ (by omega)) rfl (by omega) (by decide) ((hR _ _ (by omega) (by omega)).trans (by rw [zMx_h]; exact zds_ge h3)) ?_
                    refine P_bipush (pc := 57) (x := (-4)) dX6_shortenBy_57 (by decide) ?_
                    refine P_icmp_eqT (pc := 59) (tgt := 76) dX6_shortenBy_59 (by decide) rfl ?_
                    refine P_aload_n (pc := 76) dX6_shortenBy_76 rfl ?_
                    refine P_iload_n (pc := 77) dX6_shortenBy_77 rfl ?_
                    refine P_aald (pc := 78) (a) dX6_shortenBy_78 sh_18 (by decide) rfl (by omega) (by decide) (Fr_18 _ (by omega)) ?_
                    refine P_iload (pc := 79) dX6_shortenBy_79 rfl ?_
                    refine P_iload (pc := 81) dX6_shortenBy_81 rfl ?_
                    refine P_iload (pc := 83) dX6_shortenBy_83 rfl ?_
                    refine P_iaddN (pc := 85) dX6_shortenBy_85 ?_
                    refine P_iast (pc := 86) (b) dX6_shortenBy_86 (shr_19 _ (by omega)) rfl (by omega) (by decide) ?_
                    refine P_iincN (pc := 87) (c := 1) dX6_shortenBy_87 rfl (by decide) (by decide) rfl ?_
                    refine P_goto (pc := 90) (tgt := 20) dX6_shortenBy_90 (by decide) ?_
                    exact ihb (b + 1) _ _ (by omega) (by omega) (hF.u (by omega)) (hR.u (by omega) (by omega) (by rw [zMx_n, zds_lt (by rw [zD_s]; omega)]; exact congrArg nI (by rw [zD_s, Nat.min_eq_right (by omega)])) (fun x y hx hy e => zMx_b e))
                · rw [zds_ge h2]
                  refine P_istore (pc := 42) dX6_shortenBy_42 (by decide) rfl ?_
                  refine P_iload (pc := 44) dX6_shortenBy_44 rfl ?_
                  refine P_bipush (pc := 46) (x := (-4)) dX6_shortenBy_46 (by decide) ?_
                  refine P_icmp_eqT (pc := 48) (tgt := 87) dX6_shortenBy_48 (by decide) (by decide) ?_
                  refine P_iincN (pc := 87) (c := 1) dX6_shortenBy_87 rfl (by decide) (by decide) rfl ?_
                  refine P_goto (pc := 90) (tgt := 20) dX6_shortenBy_90 (by decide) ?_
                  exact ihb (b + 1) _ _ (by omega) (by omega) hF (hR.c (fun x y hx hy => by
                    by_cases e : x = a ∧ y = b
                    · rw [e.1, e.2, zMx_n, zMx_h]; exact zD_skip hN.1 (Or.inr h2)
                    · exact zMx_b e))
          exact loopB (nc + 1) 0 _ J (by omega) (by omega) hF hR
        · rw [zds_ge h1]
          refine P_istore (pc := 15) dX6_shortenBy_15 (by decide) rfl ?_
          refine P_iconst (pc := 17) (x := nI 0) dX6_shortenBy_17 (by decide) ?_
          refine P_istore (pc := 18) dX6_shortenBy_18 (by decide) rfl ?_
          refine P_iload (pc := 20) dX6_shortenBy_20 rfl ?_
          refine P_aload_n (pc := 22) dX6_shortenBy_22 rfl ?_
          refine P_geti (pc := 23) 6 0 (x := nI (nc)) dX6_shortenBy_23 fl_X6_26 sh_6 fi_6_0 ((congrFun (hF 6 (by decide)) 0).trans hnc) ?_
          refine P_icmp_geN (pc := 26) (tgt := 93) dX6_shortenBy_26 (by decide) (by omega) (by omega) (fun h26 => ?_) (fun h26 => ?_)
          · exact hend 0 _ _ J (by omega) hF hR (fun q h8 h9 => zD_skip hN.1 (Or.inl h1))
          · refine P_iload (pc := 29) dX6_shortenBy_29 rfl ?_
            refine P_bipush (pc := 31) (x := (-4)) dX6_shortenBy_31 (by decide) ?_
            refine P_icmp_eqT (pc := 33) (tgt := 93) dX6_shortenBy_33 (by decide) (by decide) ?_
            exact hend 0 _ _ J (by omega) hF hR (fun q h8 h9 => zD_skip hN.1 (Or.inl h1))
  show ZP _ _ _ _ [some _, some _, some _, none, none, none, none] _ _ _ _
  refine P_iconst (pc := 0) (x := nI 0) dX6_shortenBy_0 (by decide) ?_
  refine P_istore_n (pc := 1) dX6_shortenBy_1 (by decide) rfl ?_
  exact loop (nc + 1) 0 none none none I (by omega) (by omega) zRf.rf (hR0.c (fun x y _ _ => by unfold zMx; rw [if_neg (by omega)]))
set_option maxRecDepth 20000 in
theorem c_shortenBy_5_98 {l : Launch} {D : va_G} {tw : Nat} {I : AI} {nc m : Nat} {nr : Nat → Nat} (hnc : I 6 0 = nI nc) (hnc8 : nc ≤ 8) (hN : zNg nc nr) (hm : m < nc) (hR0 : zRw 99 (zD nr m) I) : ZP l D zm_X6_shortenBy 0 (zent 7 [.ref 6, .ref 98, .int (nI m)]) [] I (zF tw) (fun v J G => v = none ∧ G = zF tw ∧ zRf 99 I J ∧ zRw 99 (zD nr (m + 1)) J) := by
  have loop : ∀ (d : Nat) (a : Nat) (v4 v5 v6 : Option Value) (J : AI), nc - a < d → a ≤ nc → zRf 99 I J → zRw 99 (zMx nr m a 0) J → ZP l D zm_X6_shortenBy 2 [some (.ref 6), some (.ref 98), some (.int (nI m)), some (.int (nI a)), v4, v5, v6] [] J (zF tw) (fun v J G => v = none ∧ G = zF tw ∧ zRf 99 I J ∧ zRw 99 (zD nr (m + 1)) J) := by
    intro d
    induction d with
    | zero =>
      intro a v4 v5 v6 J hd
      exact absurd hd (by omega)
    | succ d ih =>
      intro a v4 v5 v6 J hd ha hF hR
      refine P_iload_n (pc := 2) dX6_shortenBy_2 rfl ?_
      refine P_aload_n (pc := 3) dX6_shortenBy_3 rfl ?_
      refine P_geti (pc := 4) 6 0 (x := nI (nc)) dX6_shortenBy_4 fl_X6_26 sh_6 fi_6_0 ((congrFun (hF 6 (by decide)) 0).trans hnc) ?_
      refine P_icmp_geN (pc := 7) (tgt := 99) dX6_shortenBy_7 (by decide) (by omega) (by omega) (fun h7 => ?_) (fun h7 => ?_)
      · exact P_ret (pc := 99) dX6_shortenBy_99 (⟨rfl, rfl, hF, hR.c (fun x y hx hy => by
  unfold zMx
  by_cases e : x < a
  · rw [if_pos (by omega)]
  · rw [if_neg (by omega)]; exact zD_keep hN hx hy (by omega) (Or.inl (by omega)))⟩)
      · refine P_aload_n (pc := 10) dX6_shortenBy_10 rfl ?_
        refine P_iload_n (pc := 11) dX6_shortenBy_11 rfl ?_
        refine P_aald (pc := 12) (a) dX6_shortenBy_12 sh_98 (by decide) rfl (by omega) (by decide) (Fr_98 _ (by omega)) ?_
        refine P_iload_n (pc := 13) dX6_shortenBy_13 rfl ?_
        refine P_iald (pc := 14) (m) (x := zds (zMx nr m a 0 a m)) dX6_shortenBy_14 (shr_99 _ (by omega)) rfl (by omega) (by decide) (hR _ _ (by omega) (by omega)) ?_
        rw [zMx_r]
        have hend : ∀ (b : Nat) (v4 v6 : Option Value) (J : AI), b ≤ 8 → zRf 99 I J → zRw 99 (zMx nr m a b) J → (∀ q, b ≤ q → q < 8 → zD nr (m + 1) a q = zD nr m a q) → ZP l D zm_X6_shortenBy 93 [some (.ref 6), some (.ref 98), some (.int (nI m)), some (.int (nI a)), v4, some (.int (nI b)), v6] [] J (zF tw) (fun v J G => v = none ∧ G = zF tw ∧ zRf 99 I J ∧ zRw 99 (zD nr (m + 1)) J) := by
          intro b v4 v6 J hb hF hR hq
          refine P_iincN (pc := 93) (c := 1) dX6_shortenBy_93 rfl (by decide) (by decide) rfl ?_
          refine P_goto (pc := 96) (tgt := 2) dX6_shortenBy_96 (by decide) ?_
          exact ih (a + 1) _ _ _ J (by omega) (by omega) hF (hR.c (fun x y hx hy => zMx_a hN (by omega) hx hy hq))
        by_cases h1 : zD nr m a m < 10000
        · rw [zds_lt h1]
          refine P_istore (pc := 15) dX6_shortenBy_15 (by decide) rfl ?_
          refine P_iconst (pc := 17) (x := nI 0) dX6_shortenBy_17 (by decide) ?_
          refine P_istore (pc := 18) dX6_shortenBy_18 (by decide) rfl ?_
          have loopB : ∀ (d2 : Nat) (b : Nat) (v6 : Option Value) (J : AI), nc - b < d2 → b ≤ nc → zRf 99 I J → zRw 99 (zMx nr m a b) J → ZP l D zm_X6_shortenBy 20 [some (.ref 6), some (.ref 98), some (.int (nI m)), some (.int (nI a)), some (.int (nI (zD nr m a m))), some (.int (nI b)), v6] [] J (zF tw) (fun v J G => v = none ∧ G = zF tw ∧ zRf 99 I J ∧ zRw 99 (zD nr (m + 1)) J) := by
            intro d2
            induction d2 with
            | zero =>
              intro b v6 J hd2
              exact absurd hd2 (by omega)
            | succ d2 ihb =>
              intro b v6 J hd2 hb hF hR
              refine P_iload (pc := 20) dX6_shortenBy_20 rfl ?_
              refine P_aload_n (pc := 22) dX6_shortenBy_22 rfl ?_
              refine P_geti (pc := 23) 6 0 (x := nI (nc)) dX6_shortenBy_23 fl_X6_26 sh_6 fi_6_0 ((congrFun (hF 6 (by decide)) 0).trans hnc) ?_
              refine P_icmp_geN (pc := 26) (tgt := 93) dX6_shortenBy_26 (by decide) (by omega) (by omega) (fun h26 => ?_) (fun h26 => ?_)
              · exact hend b _ _ J (by omega) hF hR (fun q h8 h9 => zD_keep hN (by omega) h9 (by omega) (Or.inr (by omega)))
              · refine P_iload (pc := 29) dX6_shortenBy_29 rfl ?_
                refine P_bipush (pc := 31) (x := (-4)) dX6_shortenBy_31 (by decide) ?_
                refine P_icmp_eqF (pc := 33) (tgt := 93) dX6_shortenBy_33 (by decide) (zne4 (by omega)) ?_
                refine P_aload_n (pc := 36) dX6_shortenBy_36 rfl ?_
                refine P_iload_n (pc := 37) dX6_shortenBy_37 rfl ?_
                refine P_aald (pc := 38) (m) dX6_shortenBy_38 sh_98 (by decide) rfl (by omega) (by decide) (Fr_98 _ (by omega)) ?_
                refine P_iload (pc := 39) dX6_shortenBy_39 rfl ?_
                refine P_iald (pc := 41) (b) (x := zds (zMx nr m a b m b)) dX6_shortenBy_41 (shr_99 _ (by omega)) rfl (by omega) (by decide) (hR _ _ (by omega) (by omega)) ?_
                rw [zMx_l]
                by_cases h2 : zD nr m m b < 10000
                · rw [zds_lt h2]
                  have hv := zD_via hN.2.1 (m := m) (a := a) (b := b) (by omega) h1 h2
                  have hle := zD_le hN.1 (a := a) (b := b) m
                  by_cases h3 : zD nr m a b < 10000
                  · refine P_istore (pc := 42) dX6_shortenBy_42 (by decide) rfl ?_
                    refine P_iload (pc := 44) dX6_shortenBy_44 rfl ?_
                    refine P_bipush (pc := 46) (x := (-4)) dX6_shortenBy_46 (by decide) ?_
                    refine P_icmp_eqF (pc := 48) (tgt := 87) dX6_shortenBy_48 (by decide) (zne4 (by omega)) ?_
                    refine P_aload_n (pc := 51) dX6_shortenBy_51 rfl ?_
                    refine P_iload_n (pc := 52) dX6_shortenBy_52 rfl ?_
                    refine P_aald (pc := 53) (a) dX6_shortenBy_53 sh_98 (by decide) rfl (by omega) (by decide) (Fr_98 _ (by omega)) ?_
                    refine P_iload (pc := 54) dX6_shortenBy_54 rfl ?_
                    refine P_iald (pc := 56) (b) (x := nI (zD nr m a b)) dX6_shortenBy_56 (shr_99 _ (by omega)) rfl (by omega) (by decide) ((hR _ _ (by omega) (by omega)).trans (by rw [zMx_h]; exact zds_lt h3)) ?_
                    refine P_bipush (pc := 57) (x := (-4)) dX6_shortenBy_57 (by decide) ?_
                    refine P_icmp_eqF (pc := 59) (tgt := 76) dX6_shortenBy_59 (by decide) (zne4 (by omega)) ?_
                    refine P_iload (pc := 62) dX6_shortenBy_62 rfl ?_
                    refine P_iload (pc := 64) dX6_shortenBy_64 rfl ?_
                    refine P_iaddN (pc := 66) dX6_shortenBy_66 ?_
                    refine P_aload_n (pc := 67) dX6_shortenBy_67 rfl ?_
                    refine P_iload_n (pc := 68) dX6_shortenBy_68 rfl ?_
                    refine P_aald (pc := 69) (a) dX6_shortenBy_69 sh_98 (by decide) rfl (by omega) (by decide) (Fr_98 _ (by omega)) ?_
                    refine P_iload (pc := 70) dX6_shortenBy_70 rfl ?_
                    refine P_iald (pc := 72) (b) (x := nI (zD nr m a b)) dX6_shortenBy_72 (shr_99 _ (by omega)) rfl (by omega) (by decide) ((hR _ _ (by omega) (by omega)).trans (by rw [zMx_h]; exact zds_lt h3)) ?_
                    refine P_icmp_geN (pc := 73) (tgt := 87) dX6_shortenBy_73 (by decide) (by omega) (by omega) (fun h73 => ?_) (fun h73 => ?_)
                    · refine P_iincN (pc := 87) (c := 1) dX6_shortenBy_87 rfl (by decide) (by decide) rfl ?_
                      refine P_goto (pc := 90) (tgt := 20) dX6_shortenBy_90 (by decide) ?_
                      exact ihb (b + 1) _ _ (by omega) (by omega) hF (hR.c (fun x y hx hy => by
                        by_cases e : x = a ∧ y = b
                        · rw [e.1, e.2, zMx_n, zMx_h]; rw [zD_s]; exact Nat.min_eq_left (by omega)
                        · exact zMx_b e))
                    · refine P_aload_n (pc := 76) dX6_shortenBy_76 rfl ?_
                      refine P_iload_n (pc := 77) dX6_shortenBy_77 rfl ?_
                      refine P_aald (pc := 78) (a) dX6_shortenBy_78 sh_98 (by decide) rfl (by omega) (by decide) (Fr_98 _ (by omega)) ?_
                      refine P_iload (pc := 79) dX6_shortenBy_79 rfl ?_
                      refine P_iload (pc := 81) dX6_shortenBy_81 rfl ?_
                      refine P_iload (pc := 83) dX6_shortenBy_83 rfl ?_
                      refine P_iaddN (pc := 85) dX6_shortenBy_85 ?_
                      refine P_iast (pc := 86) (b) dX6_shortenBy_86 (shr_99 _ (by omega)) rfl (by omega) (by decide) ?_
                      refine P_iincN (pc := 87) (c := 1) dX6_shortenBy_87 rfl (by decide) (by decide) rfl ?_
                      refine P_goto (pc := 90) (tgt := 20) dX6_shortenBy_90 (by decide) ?_
                      exact ihb (b + 1) _ _ (by omega) (by omega) (hF.u (by omega)) (hR.u (by omega) (by omega) (by rw [zMx_n, zds_lt (by rw [zD_s]; omega)]; exact congrArg nI (by rw [zD_s, Nat.min_eq_right (by omega)])) (fun x y hx hy e => zMx_b e))
                  · refine P_istore (pc := 42) dX6_shortenBy_42 (by decide) rfl ?_
                    refine P_iload (pc := 44) dX6_shortenBy_44 rfl ?_
                    refine P_bipush (pc := 46) (x := (-4)) dX6_shortenBy_46 (by decide) ?_
                    refine P_icmp_eqF (pc := 48) (tgt := 87) dX6_shortenBy_48 (by decide) (zne4 (by omega)) ?_
                    refine P_aload_n (pc := 51) dX6_shortenBy_51 rfl ?_
                    refine P_iload_n (pc := 52) dX6_shortenBy_52 rfl ?_
                    refine P_aald (pc := 53) (a) dX6_shortenBy_53 sh_98 (by decide) rfl (by omega) (by decide) (Fr_98 _ (by omega)) ?_
                    refine P_iload (pc := 54) dX6_shortenBy_54 rfl ?_
                    refine P_iald (pc := 56) (b) (x := (-4)) dX6_shortenBy_56 (shr_99 _ (by omega)) rfl (by omega) (by decide) ((hR _ _ (by omega) (by omega)).trans (by rw [zMx_h]; exact zds_ge h3)) ?_
                    refine P_bipush (pc := 57) (x := (-4)) dX6_shortenBy_57 (by decide) ?_
                    refine P_icmp_eqT (pc := 59) (tgt := 76) dX6_shortenBy_59 (by decide) rfl ?_
                    refine P_aload_n (pc := 76) dX6_shortenBy_76 rfl ?_
                    refine P_iload_n (pc := 77) dX6_shortenBy_77 rfl ?_
                    refine P_aald (pc := 78) (a) dX6_shortenBy_78 sh_98 (by decide) rfl (by omega) (by decide) (Fr_98 _ (by omega)) ?_
                    refine P_iload (pc := 79) dX6_shortenBy_79 rfl ?_
                    refine P_iload (pc := 81) dX6_shortenBy_81 rfl ?_
                    refine P_iload (pc := 83) dX6_shortenBy_83 rfl ?_
                    refine P_iaddN (pc := 85) dX6_shortenBy_85 ?_
                    refine P_iast (pc := 86) (b) dX6_shortenBy_86 (shr_99 _ (by omega)) rfl (by omega) (by decide) ?_
                    refine P_iincN (pc := 87) (c := 1) dX6_shortenBy_87 rfl (by decide) (by decide) rfl ?_
                    refine P_goto (pc := 90) (tgt := 20) dX6_shortenBy_90 (by decide) ?_
                    exact ihb (b + 1) _ _ (by omega) (by omega) (hF.u (by omega)) (hR.u (by omega) (by omega) (by rw [zMx_n, zds_lt (by rw [zD_s]; omega)]; exact congrArg nI (by rw [zD_s, Nat.min_eq_right (by omega)])) (fun x y hx hy e => zMx_b e))
                · rw [zds_ge h2]
                  refine P_istore (pc := 42) dX6_shortenBy_42 (by decide) rfl ?_
                  refine P_iload (pc := 44) dX6_shortenBy_44 rfl ?_
                  refine P_bipush (pc := 46) (x := (-4)) dX6_shortenBy_46 (by decide) ?_
                  refine P_icmp_eqT (pc := 48) (tgt := 87) dX6_shortenBy_48 (by decide) (by decide) ?_
                  refine P_iincN (pc := 87) (c := 1) dX6_shortenBy_87 rfl (by decide) (by decide) rfl ?_
                  refine P_goto (pc := 90) (tgt := 20) dX6_shortenBy_90 (by decide) ?_
                  exact ihb (b + 1) _ _ (by omega) (by omega) hF (hR.c (fun x y hx hy => by
                    by_cases e : x = a ∧ y = b
                    · rw [e.1, e.2, zMx_n, zMx_h]; exact zD_skip hN.1 (Or.inr h2)
                    · exact zMx_b e))
          exact loopB (nc + 1) 0 _ J (by omega) (by omega) hF hR
        · rw [zds_ge h1]
          refine P_istore (pc := 15) dX6_shortenBy_15 (by decide) rfl ?_
          refine P_iconst (pc := 17) (x := nI 0) dX6_shortenBy_17 (by decide) ?_
          refine P_istore (pc := 18) dX6_shortenBy_18 (by decide) rfl ?_
          refine P_iload (pc := 20) dX6_shortenBy_20 rfl ?_
          refine P_aload_n (pc := 22) dX6_shortenBy_22 rfl ?_
          refine P_geti (pc := 23) 6 0 (x := nI (nc)) dX6_shortenBy_23 fl_X6_26 sh_6 fi_6_0 ((congrFun (hF 6 (by decide)) 0).trans hnc) ?_
          refine P_icmp_geN (pc := 26) (tgt := 93) dX6_shortenBy_26 (by decide) (by omega) (by omega) (fun h26 => ?_) (fun h26 => ?_)
          · exact hend 0 _ _ J (by omega) hF hR (fun q h8 h9 => zD_skip hN.1 (Or.inl h1))
          · refine P_iload (pc := 29) dX6_shortenBy_29 rfl ?_
            refine P_bipush (pc := 31) (x := (-4)) dX6_shortenBy_31 (by decide) ?_
            refine P_icmp_eqT (pc := 33) (tgt := 93) dX6_shortenBy_33 (by decide) (by decide) ?_
            exact hend 0 _ _ J (by omega) hF hR (fun q h8 h9 => zD_skip hN.1 (Or.inl h1))
  show ZP _ _ _ _ [some _, some _, some _, none, none, none, none] _ _ _ _
  refine P_iconst (pc := 0) (x := nI 0) dX6_shortenBy_0 (by decide) ?_
  refine P_istore_n (pc := 1) dX6_shortenBy_1 (by decide) rfl ?_
  exact loop (nc + 1) 0 none none none I (by omega) (by omega) zRf.rf (hR0.c (fun x y _ _ => by unfold zMx; rw [if_neg (by omega)]))
set_option maxRecDepth 20000 in
theorem c_shortenBy_36_49 {l : Launch} {D : va_G} {tw : Nat} {I : AI} {nc m : Nat} {nr : Nat → Nat} (hnc : I 37 0 = nI nc) (hnc8 : nc ≤ 8) (hN : zNg nc nr) (hm : m < nc) (hR0 : zRw 50 (zD nr m) I) : ZP l D zm_X6_shortenBy 0 (zent 7 [.ref 37, .ref 49, .int (nI m)]) [] I (zF tw) (fun v J G => v = none ∧ G = zF tw ∧ zRf 50 I J ∧ zRw 50 (zD nr (m + 1)) J) := by
  have loop : ∀ (d : Nat) (a : Nat) (v4 v5 v6 : Option Value) (J : AI), nc - a < d → a ≤ nc → zRf 50 I J → zRw 50 (zMx nr m a 0) J → ZP l D zm_X6_shortenBy 2 [some (.ref 37), some (.ref 49), some (.int (nI m)), some (.int (nI a)), v4, v5, v6] [] J (zF tw) (fun v J G => v = none ∧ G = zF tw ∧ zRf 50 I J ∧ zRw 50 (zD nr (m + 1)) J) := by
    intro d
    induction d with
    | zero =>
      intro a v4 v5 v6 J hd
      exact absurd hd (by omega)
    | succ d ih =>
      intro a v4 v5 v6 J hd ha hF hR
      refine P_iload_n (pc := 2) dX6_shortenBy_2 rfl ?_
      refine P_aload_n (pc := 3) dX6_shortenBy_3 rfl ?_
      refine P_geti (pc := 4) 6 0 (x := nI (nc)) dX6_shortenBy_4 fl_X6_26 sh_37 fi_6_0 ((congrFun (hF 37 (by decide)) 0).trans hnc) ?_
      refine P_icmp_geN (pc := 7) (tgt := 99) dX6_shortenBy_7 (by decide) (by omega) (by omega) (fun h7 => ?_) (fun h7 => ?_)
      · exact P_ret (pc := 99) dX6_shortenBy_99 (⟨rfl, rfl, hF, hR.c (fun x y hx hy => by
  unfold zMx
  by_cases e : x < a
  · rw [if_pos (by omega)]
  · rw [if_neg (by omega)]; exact zD_keep hN hx hy (by omega) (Or.inl (by omega)))⟩)
      · refine P_aload_n (pc := 10) dX6_shortenBy_10 rfl ?_
        refine P_iload_n (pc := 11) dX6_shortenBy_11 rfl ?_
        refine P_aald (pc := 12) (a) dX6_shortenBy_12 sh_49 (by decide) rfl (by omega) (by decide) (Fr_49 _ (by omega)) ?_
        refine P_iload_n (pc := 13) dX6_shortenBy_13 rfl ?_
        refine P_iald (pc := 14) (m) (x := zds (zMx nr m a 0 a m)) dX6_shortenBy_14 (shr_50 _ (by omega)) rfl (by omega) (by decide) (hR _ _ (by omega) (by omega)) ?_
        rw [zMx_r]
        have hend : ∀ (b : Nat) (v4 v6 : Option Value) (J : AI), b ≤ 8 → zRf 50 I J → zRw 50 (zMx nr m a b) J → (∀ q, b ≤ q → q < 8 → zD nr (m + 1) a q = zD nr m a q) → ZP l D zm_X6_shortenBy 93 [some (.ref 37), some (.ref 49), some (.int (nI m)), some (.int (nI a)), v4, some (.int (nI b)), v6] [] J (zF tw) (fun v J G => v = none ∧ G = zF tw ∧ zRf 50 I J ∧ zRw 50 (zD nr (m + 1)) J) := by
          intro b v4 v6 J hb hF hR hq
          refine P_iincN (pc := 93) (c := 1) dX6_shortenBy_93 rfl (by decide) (by decide) rfl ?_
          refine P_goto (pc := 96) (tgt := 2) dX6_shortenBy_96 (by decide) ?_
          exact ih (a + 1) _ _ _ J (by omega) (by omega) hF (hR.c (fun x y hx hy => zMx_a hN (by omega) hx hy hq))
        by_cases h1 : zD nr m a m < 10000
        · rw [zds_lt h1]
          refine P_istore (pc := 15) dX6_shortenBy_15 (by decide) rfl ?_
          refine P_iconst (pc := 17) (x := nI 0) dX6_shortenBy_17 (by decide) ?_
          refine P_istore (pc := 18) dX6_shortenBy_18 (by decide) rfl ?_
          have loopB : ∀ (d2 : Nat) (b : Nat) (v6 : Option Value) (J : AI), nc - b < d2 → b ≤ nc → zRf 50 I J → zRw 50 (zMx nr m a b) J → ZP l D zm_X6_shortenBy 20 [some (.ref 37), some (.ref 49), some (.int (nI m)), some (.int (nI a)), some (.int (nI (zD nr m a m))), some (.int (nI b)), v6] [] J (zF tw) (fun v J G => v = none ∧ G = zF tw ∧ zRf 50 I J ∧ zRw 50 (zD nr (m + 1)) J) := by
            intro d2
            induction d2 with
            | zero =>
              intro b v6 J hd2
              exact absurd hd2 (by omega)
            | succ d2 ihb =>
              intro b v6 J hd2 hb hF hR
              refine P_iload (pc := 20) dX6_shortenBy_20 rfl ?_
              refine P_aload_n (pc := 22) dX6_shortenBy_22 rfl ?_
              refine P_geti (pc := 23) 6 0 (x := nI (nc)) dX6_shortenBy_23 fl_X6_26 sh_37 fi_6_0 ((congrFun (hF 37 (by decide)) 0).trans hnc) ?_
              refine P_icmp_geN (pc := 26) (tgt := 93) dX6_shortenBy_26 (by decide) (by omega) (by omega) (fun h26 => ?_) (fun h26 => ?_)
              · exact hend b _ _ J (by omega) hF hR (fun q h8 h9 => zD_keep hN (by omega) h9 (by omega) (Or.inr (by omega)))
              · refine P_iload (pc := 29) dX6_shortenBy_29 rfl ?_
                refine P_bipush (pc := 31) (x := (-4)) dX6_shortenBy_31 (by decide) ?_
                refine P_icmp_eqF (pc := 33) (tgt := 93) dX6_shortenBy_33 (by decide) (zne4 (by omega)) ?_
                refine P_aload_n (pc := 36) dX6_shortenBy_36 rfl ?_
                refine P_iload_n (pc := 37) dX6_shortenBy_37 rfl ?_
                refine P_aald (pc := 38) (m) dX6_shortenBy_38 sh_49 (by decide) rfl (by omega) (by decide) (Fr_49 _ (by omega)) ?_
                refine P_iload (pc := 39) dX6_shortenBy_39 rfl ?_
                refine P_iald (pc := 41) (b) (x := zds (zMx nr m a b m b)) dX6_shortenBy_41 (shr_50 _ (by omega)) rfl (by omega) (by decide) (hR _ _ (by omega) (by omega)) ?_
                rw [zMx_l]
                by_cases h2 : zD nr m m b < 10000
                · rw [zds_lt h2]
                  have hv := zD_via hN.2.1 (m := m) (a := a) (b := b) (by omega) h1 h2
                  have hle := zD_le hN.1 (a := a) (b := b) m
                  by_cases h3 : zD nr m a b < 10000
                  · refine P_istore (pc := 42) dX6_shortenBy_42 (by decide) rfl ?_
                    refine P_iload (pc := 44) dX6_shortenBy_44 rfl ?_
                    refine P_bipush (pc := 46) (x := (-4)) dX6_shortenBy_46 (by decide) ?_
                    refine P_icmp_eqF (pc := 48) (tgt := 87) dX6_shortenBy_48 (by decide) (zne4 (by omega)) ?_
                    refine P_aload_n (pc := 51) dX6_shortenBy_51 rfl ?_
                    refine P_iload_n (pc := 52) dX6_shortenBy_52 rfl ?_
                    refine P_aald (pc := 53) (a) dX6_shortenBy_53 sh_49 (by decide) rfl (by omega) (by decide) (Fr_49 _ (by omega)) ?_
                    refine P_iload (pc := 54) dX6_shortenBy_54 rfl ?_
                    refine P_iald (pc := 56) (b) (x := nI (zD nr m a b)) dX6_shortenBy_56 (shr_50 _ (by omega)) rfl (by omega) (by decide) ((hR _ _ (by omega) (by omega)).trans (by rw [zMx_h]; exact zds_lt h3)) ?_
                    refine P_bipush (pc := 57) (x := (-4)) dX6_shortenBy_57 (by decide) ?_
                    refine P_icmp_eqF (pc := 59) (tgt := 76) dX6_shortenBy_59 (by decide) (zne4 (by omega)) ?_
                    refine P_iload (pc := 62) dX6_shortenBy_62 rfl ?_
                    refine P_iload (pc := 64) dX6_shortenBy_64 rfl ?_
                    refine P_iaddN (pc := 66) dX6_shortenBy_66 ?_
                    refine P_aload_n (pc := 67) dX6_shortenBy_67 rfl ?_
                    refine P_iload_n (pc := 68) dX6_shortenBy_68 rfl ?_
                    refine P_aald (pc := 69) (a) dX6_shortenBy_69 sh_49 (by decide) rfl (by omega) (by decide) (Fr_49 _ (by omega)) ?_
                    refine P_iload (pc := 70) dX6_shortenBy_70 rfl ?_
                    refine P_iald (pc := 72) (b) (x := nI (zD nr m a b)) dX6_shortenBy_72 (shr_50 _ (by omega)) rfl (by omega) (by decide) ((hR _ _ (by omega) (by omega)).trans (by rw [zMx_h]; exact zds_lt h3)) ?_
                    refine P_icmp_geN (pc := 73) (tgt := 87) dX6_shortenBy_73 (by decide) (by omega) (by omega) (fun h73 => ?_) (fun h73 => ?_)
                    · refine P_iincN (pc := 87) (c := 1) dX6_shortenBy_87 rfl (by decide) (by decide) rfl ?_
                      refine P_goto (pc := 90) (tgt := 20) dX6_shortenBy_90 (by decide) ?_
                      exact ihb (b + 1) _ _ (by omega) (by omega) hF (hR.c (fun x y hx hy => by
                        by_cases e : x = a ∧ y = b
                        · rw [e.1, e.2, zMx_n, zMx_h]; rw [zD_s]; exact Nat.min_eq_left (by omega)
                        · exact zMx_b e))
                    · refine P_aload_n (pc := 76) dX6_shortenBy_76 rfl ?_
                      refine P_iload_n (pc := 77) dX6_shortenBy_77 rfl ?_
                      refine P_aald (pc := 78) (a) dX6_shortenBy_78 sh_49 (by decide) rfl (by omega) (by decide) (Fr_49 _ (by omega)) ?_
                      refine P_iload (pc := 79) dX6_shortenBy_79 rfl ?_
                      refine P_iload (pc := 81) dX6_shortenBy_81 rfl ?_
                      refine P_iload (pc := 83) dX6_shortenBy_83 rfl ?_
                      refine P_iaddN (pc := 85) dX6_shortenBy_85 ?_
                      refine P_iast (pc := 86) (b) dX6_shortenBy_86 (shr_50 _ (by omega)) rfl (by omega) (by decide) ?_
                      refine P_iincN (pc := 87) (c := 1) dX6_shortenBy_87 rfl (by decide) (by decide) rfl ?_
                      refine P_goto (pc := 90) (tgt := 20) dX6_shortenBy_90 (by decide) ?_
                      exact ihb (b + 1) _ _ (by omega) (by omega) (hF.u (by omega)) (hR.u (by omega) (by omega) (by rw [zMx_n, zds_lt (by rw [zD_s]; omega)]; exact congrArg nI (by rw [zD_s, Nat.min_eq_right (by omega)])) (fun x y hx hy e => zMx_b e))
                  · refine P_istore (pc := 42) dX6_shortenBy_42 (by decide) rfl ?_
                    refine P_iload (pc := 44) dX6_shortenBy_44 rfl ?_
                    refine P_bipush (pc := 46) (x := (-4)) dX6_shortenBy_46 (by decide) ?_
                    refine P_icmp_eqF (pc := 48) (tgt := 87) dX6_shortenBy_48 (by decide) (zne4 (by omega)) ?_
                    refine P_aload_n (pc := 51) dX6_shortenBy_51 rfl ?_
                    refine P_iload_n (pc := 52) dX6_shortenBy_52 rfl ?_
                    refine P_aald (pc := 53) (a) dX6_shortenBy_53 sh_49 (by decide) rfl (by omega) (by decide) (Fr_49 _ (by omega)) ?_
                    refine P_iload (pc := 54) dX6_shortenBy_54 rfl ?_
                    refine P_iald (pc := 56) (b) (x := (-4)) dX6_shortenBy_56 (shr_50 _ (by omega)) rfl (by omega) (by decide) ((hR _ _ (by omega) (by omega)).trans (by rw [zMx_h]; exact zds_ge h3)) ?_
                    refine P_bipush (pc := 57) (x := (-4)) dX6_shortenBy_57 (by decide) ?_
                    refine P_icmp_eqT (pc := 59) (tgt := 76) dX6_shortenBy_59 (by decide) rfl ?_
                    refine P_aload_n (pc := 76) dX6_shortenBy_76 rfl ?_
                    refine P_iload_n (pc := 77) dX6_shortenBy_77 rfl ?_
                    refine P_aald (pc := 78) (a) dX6_shortenBy_78 sh_49 (by decide) rfl (by omega) (by decide) (Fr_49 _ (by omega)) ?_
                    refine P_iload (pc := 79) dX6_shortenBy_79 rfl ?_
                    refine P_iload (pc := 81) dX6_shortenBy_81 rfl ?_
                    refine P_iload (pc := 83) dX6_shortenBy_83 rfl ?_
                    refine P_iaddN (pc := 85) dX6_shortenBy_85 ?_
                    refine P_iast (pc := 86) (b) dX6_shortenBy_86 (shr_50 _ (by omega)) rfl (by omega) (by decide) ?_
                    refine P_iincN (pc := 87) (c := 1) dX6_shortenBy_87 rfl (by decide) (by decide) rfl ?_
                    refine P_goto (pc := 90) (tgt := 20) dX6_shortenBy_90 (by decide) ?_
                    exact ihb (b + 1) _ _ (by omega) (by omega) (hF.u (by omega)) (hR.u (by omega) (by omega) (by rw [zMx_n, zds_lt (by rw [zD_s]; omega)]; exact congrArg nI (by rw [zD_s, Nat.min_eq_right (by omega)])) (fun x y hx hy e => zMx_b e))
                · rw [zds_ge h2]
                  refine P_istore (pc := 42) dX6_shortenBy_42 (by decide) rfl ?_
                  refine P_iload (pc := 44) dX6_shortenBy_44 rfl ?_
                  refine P_bipush (pc := 46) (x := (-4)) dX6_shortenBy_46 (by decide) ?_
                  refine P_icmp_eqT (pc := 48) (tgt := 87) dX6_shortenBy_48 (by decide) (by decide) ?_
                  refine P_iincN (pc := 87) (c := 1) dX6_shortenBy_87 rfl (by decide) (by decide) rfl ?_
                  refine P_goto (pc := 90) (tgt := 20) dX6_shortenBy_90 (by decide) ?_
                  exact ihb (b + 1) _ _ (by omega) (by omega) hF (hR.c (fun x y hx hy => by
                    by_cases e : x = a ∧ y = b
                    · rw [e.1, e.2, zMx_n, zMx_h]; exact zD_skip hN.1 (Or.inr h2)
                    · exact zMx_b e))
          exact loopB (nc + 1) 0 _ J (by omega) (by omega) hF hR
        · rw [zds_ge h1]
          refine P_istore (pc := 15) dX6_shortenBy_15 (by decide) rfl ?_
          refine P_iconst (pc := 17) (x := nI 0) dX6_shortenBy_17 (by decide) ?_
          refine P_istore (pc := 18) dX6_shortenBy_18 (by decide) rfl ?_
          refine P_iload (pc := 20) dX6_shortenBy_20 rfl ?_
          refine P_aload_n (pc := 22) dX6_shortenBy_22 rfl ?_
          refine P_geti (pc := 23) 6 0 (x := nI (nc)) dX6_shortenBy_23 fl_X6_26 sh_37 fi_6_0 ((congrFun (hF 37 (by decide)) 0).trans hnc) ?_
          refine P_icmp_geN (pc := 26) (tgt := 93) dX6_shortenBy_26 (by decide) (by omega) (by omega) (fun h26 => ?_) (fun h26 => ?_)
          · exact hend 0 _ _ J (by omega) hF hR (fun q h8 h9 => zD_skip hN.1 (Or.inl h1))
          · refine P_iload (pc := 29) dX6_shortenBy_29 rfl ?_
            refine P_bipush (pc := 31) (x := (-4)) dX6_shortenBy_31 (by decide) ?_
            refine P_icmp_eqT (pc := 33) (tgt := 93) dX6_shortenBy_33 (by decide) (by decide) ?_
            exact hend 0 _ _ J (by omega) hF hR (fun q h8 h9 => zD_skip hN.1 (Or.inl h1))
  show ZP _ _ _ _ [some _, some _, some _, none, none, none, none] _ _ _ _
  refine P_iconst (pc := 0) (x := nI 0) dX6_shortenBy_0 (by decide) ?_
  refine P_istore_n (pc := 1) dX6_shortenBy_1 (by decide) rfl ?_
  exact loop (nc + 1) 0 none none none I (by omega) (by omega) zRf.rf (hR0.c (fun x y _ _ => by unfold zMx; rw [if_neg (by omega)]))
set_option maxRecDepth 20000 in
theorem c_shortenBy_36_98 {l : Launch} {D : va_G} {tw : Nat} {I : AI} {nc m : Nat} {nr : Nat → Nat} (hnc : I 37 0 = nI nc) (hnc8 : nc ≤ 8) (hN : zNg nc nr) (hm : m < nc) (hR0 : zRw 99 (zD nr m) I) : ZP l D zm_X6_shortenBy 0 (zent 7 [.ref 37, .ref 98, .int (nI m)]) [] I (zF tw) (fun v J G => v = none ∧ G = zF tw ∧ zRf 99 I J ∧ zRw 99 (zD nr (m + 1)) J) := by
  have loop : ∀ (d : Nat) (a : Nat) (v4 v5 v6 : Option Value) (J : AI), nc - a < d → a ≤ nc → zRf 99 I J → zRw 99 (zMx nr m a 0) J → ZP l D zm_X6_shortenBy 2 [some (.ref 37), some (.ref 98), some (.int (nI m)), some (.int (nI a)), v4, v5, v6] [] J (zF tw) (fun v J G => v = none ∧ G = zF tw ∧ zRf 99 I J ∧ zRw 99 (zD nr (m + 1)) J) := by
    intro d
    induction d with
    | zero =>
      intro a v4 v5 v6 J hd
      exact absurd hd (by omega)
    | succ d ih =>
      intro a v4 v5 v6 J hd ha hF hR
      refine P_iload_n (pc := 2) dX6_shortenBy_2 rfl ?_
      refine P_aload_n (pc := 3) dX6_shortenBy_3 rfl ?_
      refine P_geti (pc := 4) 6 0 (x := nI (nc)) dX6_shortenBy_4 fl_X6_26 sh_37 fi_6_0 ((congrFun (hF 37 (by decide)) 0).trans hnc) ?_
      refine P_icmp_geN (pc := 7) (tgt := 99) dX6_shortenBy_7 (by decide) (by omega) (by omega) (fun h7 => ?_) (fun h7 => ?_)
      · exact P_ret (pc := 99) dX6_shortenBy_99 (⟨rfl, rfl, hF, hR.c (fun x y hx hy => by
  unfold zMx
  by_cases e : x < a
  · rw [if_pos (by omega)]
  · rw [if_neg (by omega)]; exact zD_keep hN hx hy (by omega) (Or.inl (by omega)))⟩)
      · refine P_aload_n (pc := 10) dX6_shortenBy_10 rfl ?_
        refine P_iload_n (pc := 11) dX6_shortenBy_11 rfl ?_
        refine P_aald (pc := 12) (a) dX6_shortenBy_12 sh_98 (by decide) rfl (by omega) (by decide) (Fr_98 _ (by omega)) ?_
        refine P_iload_n (pc := 13) dX6_shortenBy_13 rfl ?_
        refine P_iald (pc := 14) (m) (x := zds (zMx nr m a 0 a m)) dX6_shortenBy_14 (shr_99 _ (by omega)) rfl (by omega) (by decide) (hR _ _ (by omega) (by omega)) ?_
        rw [zMx_r]
        have hend : ∀ (b : Nat) (v4 v6 : Option Value) (J : AI), b ≤ 8 → zRf 99 I J → zRw 99 (zMx nr m a b) J → (∀ q, b ≤ q → q < 8 → zD nr (m + 1) a q = zD nr m a q) → ZP l D zm_X6_shortenBy 93 [some (.ref 37), some (.ref 98), some (.int (nI m)), some (.int (nI a)), v4, some (.int (nI b)), v6] [] J (zF tw) (fun v J G => v = none ∧ G = zF tw ∧ zRf 99 I J ∧ zRw 99 (zD nr (m + 1)) J) := by
          intro b v4 v6 J hb hF hR hq
          refine P_iincN (pc := 93) (c := 1) dX6_shortenBy_93 rfl (by decide) (by decide) rfl ?_
          refine P_goto (pc := 96) (tgt := 2) dX6_shortenBy_96 (by decide) ?_
          exact ih (a + 1) _ _ _ J (by omega) (by omega) hF (hR.c (fun x y hx hy => zMx_a hN (by omega) hx hy hq))
        by_cases h1 : zD nr m a m < 10000
        · rw [zds_lt h1]
          refine P_istore (pc := 15) dX6_shortenBy_15 (by decide) rfl ?_
          refine P_iconst (pc := 17) (x := nI 0) dX6_shortenBy_17 (by decide) ?_
          refine P_istore (pc := 18) dX6_shortenBy_18 (by decide) rfl ?_
          have loopB : ∀ (d2 : Nat) (b : Nat) (v6 : Option Value) (J : AI), nc - b < d2 → b ≤ nc → zRf 99 I J → zRw 99 (zMx nr m a b) J → ZP l D zm_X6_shortenBy 20 [some (.ref 37), some (.ref 98), some (.int (nI m)), some (.int (nI a)), some (.int (nI (zD nr m a m))), some (.int (nI b)), v6] [] J (zF tw) (fun v J G => v = none ∧ G = zF tw ∧ zRf 99 I J ∧ zRw 99 (zD nr (m + 1)) J) := by
            intro d2
            induction d2 with
            | zero =>
              intro b v6 J hd2
              exact absurd hd2 (by omega)
            | succ d2 ihb =>
              intro b v6 J hd2 hb hF hR
              refine P_iload (pc := 20) dX6_shortenBy_20 rfl ?_
              refine P_aload_n (pc := 22) dX6_shortenBy_22 rfl ?_
              refine P_geti (pc := 23) 6 0 (x := nI (nc)) dX6_shortenBy_23 fl_X6_26 sh_37 fi_6_0 ((congrFun (hF 37 (by decide)) 0).trans hnc) ?_
              refine P_icmp_geN (pc := 26) (tgt := 93) dX6_shortenBy_26 (by decide) (by omega) (by omega) (fun h26 => ?_) (fun h26 => ?_)
              · exact hend b _ _ J (by omega) hF hR (fun q h8 h9 => zD_keep hN (by omega) h9 (by omega) (Or.inr (by omega)))
              · refine P_iload (pc := 29) dX6_shortenBy_29 rfl ?_
                refine P_bipush (pc := 31) (x := (-4)) dX6_shortenBy_31 (by decide) ?_
                refine P_icmp_eqF (pc := 33) (tgt := 93) dX6_shortenBy_33 (by decide) (zne4 (by omega)) ?_
                refine P_aload_n (pc := 36) dX6_shortenBy_36 rfl ?_
                refine P_iload_n (pc := 37) dX6_shortenBy_37 rfl ?_
                refine P_aald (pc := 38) (m) dX6_shortenBy_38 sh_98 (by decide) rfl (by omega) (by decide) (Fr_98 _ (by omega)) ?_
                refine P_iload (pc := 39) dX6_shortenBy_39 rfl ?_
                refine P_iald (pc := 41) (b) (x := zds (zMx nr m a b m b)) dX6_shortenBy_41 (shr_99 _ (by omega)) rfl (by omega) (by decide) (hR _ _ (by omega) (by omega)) ?_
                rw [zMx_l]
                by_cases h2 : zD nr m m b < 10000
                · rw [zds_lt h2]
                  have hv := zD_via hN.2.1 (m := m) (a := a) (b := b) (by omega) h1 h2
                  have hle := zD_le hN.1 (a := a) (b := b) m
                  by_cases h3 : zD nr m a b < 10000
                  · refine P_istore (pc := 42) dX6_shortenBy_42 (by decide) rfl ?_
                    refine P_iload (pc := 44) dX6_shortenBy_44 rfl ?_
                    refine P_bipush (pc := 46) (x := (-4)) dX6_shortenBy_46 (by decide) ?_
                    refine P_icmp_eqF (pc := 48) (tgt := 87) dX6_shortenBy_48 (by decide) (zne4 (by omega)) ?_
                    refine P_aload_n (pc := 51) dX6_shortenBy_51 rfl ?_
                    refine P_iload_n (pc := 52) dX6_shortenBy_52 rfl ?_
                    refine P_aald (pc := 53) (a) dX6_shortenBy_53 sh_98 (by decide) rfl (by omega) (by decide) (Fr_98 _ (by omega)) ?_
                    refine P_iload (pc := 54) dX6_shortenBy_54 rfl ?_
                    refine P_iald (pc := 56) (b) (x := nI (zD nr m a b)) dX6_shortenBy_56 (shr_99 _ (by omega)) rfl (by omega) (by decide) ((hR _ _ (by omega) (by omega)).trans (by rw [zMx_h]; exact zds_lt h3)) ?_
                    refine P_bipush (pc := 57) (x := (-4)) dX6_shortenBy_57 (by decide) ?_
                    refine P_icmp_eqF (pc := 59) (tgt := 76) dX6_shortenBy_59 (by decide) (zne4 (by omega)) ?_
                    refine P_iload (pc := 62) dX6_shortenBy_62 rfl ?_
                    refine P_iload (pc := 64) dX6_shortenBy_64 rfl ?_
                    refine P_iaddN (pc := 66) dX6_shortenBy_66 ?_
                    refine P_aload_n (pc := 67) dX6_shortenBy_67 rfl ?_
                    refine P_iload_n (pc := 68) dX6_shortenBy_68 rfl ?_
                    refine P_aald (pc := 69) (a) dX6_shortenBy_69 sh_98 (by decide) rfl (by omega) (by decide) (Fr_98 _ (by omega)) ?_
                    refine P_iload (pc := 70) dX6_shortenBy_70 rfl ?_
                    refine P_iald (pc := 72) (b) (x := nI (zD nr m a b)) dX6_shortenBy_72 (shr_99 _ (by omega)) rfl (by omega) (by decide) ((hR _ _ (by omega) (by omega)).trans (by rw [zMx_h]; exact zds_lt h3)) ?_
                    refine P_icmp_geN (pc := 73) (tgt := 87) dX6_shortenBy_73 (by decide) (by omega) (by omega) (fun h73 => ?_) (fun h73 => ?_)
                    · refine P_iincN (pc := 87) (c := 1) dX6_shortenBy_87 rfl (by decide) (by decide) rfl ?_
                      refine P_goto (pc := 90) (tgt := 20) dX6_shortenBy_90 (by decide) ?_
                      exact ihb (b + 1) _ _ (by omega) (by omega) hF (hR.c (fun x y hx hy => by
                        by_cases e : x = a ∧ y = b
                        · rw [e.1, e.2, zMx_n, zMx_h]; rw [zD_s]; exact Nat.min_eq_left (by omega)
                        · exact zMx_b e))
                    · refine P_aload_n (pc := 76) dX6_shortenBy_76 rfl ?_
                      refine P_iload_n (pc := 77) dX6_shortenBy_77 rfl ?_
                      refine P_aald (pc := 78) (a) dX6_shortenBy_78 sh_98 (by decide) rfl (by omega) (by decide) (Fr_98 _ (by omega)) ?_
                      refine P_iload (pc := 79) dX6_shortenBy_79 rfl ?_
                      refine P_iload (pc := 81) dX6_shortenBy_81 rfl ?_
                      refine P_iload (pc := 83) dX6_shortenBy_83 rfl ?_
                      refine P_iaddN (pc := 85) dX6_shortenBy_85 ?_
                      refine P_iast (pc := 86) (b) dX6_shortenBy_86 (shr_99 _ (by omega)) rfl (by omega) (by decide) ?_
                      refine P_iincN (pc := 87) (c := 1) dX6_shortenBy_87 rfl (by decide) (by decide) rfl ?_
                      refine P_goto (pc := 90) (tgt := 20) dX6_shortenBy_90 (by decide) ?_
                      exact ihb (b + 1) _ _ (by omega) (by omega) (hF.u (by omega)) (hR.u (by omega) (by omega) (by rw [zMx_n, zds_lt (by rw [zD_s]; omega)]; exact congrArg nI (by rw [zD_s, Nat.min_eq_right (by omega)])) (fun x y hx hy e => zMx_b e))
                  · refine P_istore (pc := 42) dX6_shortenBy_42 (by decide) rfl ?_
                    refine P_iload (pc := 44) dX6_shortenBy_44 rfl ?_
                    refine P_bipush (pc := 46) (x := (-4)) dX6_shortenBy_46 (by decide) ?_
                    refine P_icmp_eqF (pc := 48) (tgt := 87) dX6_shortenBy_48 (by decide) (zne4 (by omega)) ?_
                    refine P_aload_n (pc := 51) dX6_shortenBy_51 rfl ?_
                    refine P_iload_n (pc := 52) dX6_shortenBy_52 rfl ?_
                    refine P_aald (pc := 53) (a) dX6_shortenBy_53 sh_98 (by decide) rfl (by omega) (by decide) (Fr_98 _ (by omega)) ?_
                    refine P_iload (pc := 54) dX6_shortenBy_54 rfl ?_
                    refine P_iald (pc := 56) (b) (x := (-4)) dX6_shortenBy_56 (shr_99 _ (by omega)) rfl (by omega) (by decide) ((hR _ _ (by omega) (by omega)).trans (by rw [zMx_h]; exact zds_ge h3)) ?_
                    refine P_bipush (pc := 57) (x := (-4)) dX6_shortenBy_57 (by decide) ?_
                    refine P_icmp_eqT (pc := 59) (tgt := 76) dX6_shortenBy_59 (by decide) rfl ?_
                    refine P_aload_n (pc := 76) dX6_shortenBy_76 rfl ?_
                    refine P_iload_n (pc := 77) dX6_shortenBy_77 rfl ?_
                    refine P_aald (pc := 78) (a) dX6_shortenBy_78 sh_98 (by decide) rfl (by omega) (by decide) (Fr_98 _ (by omega)) ?_
                    refine P_iload (pc := 79) dX6_shortenBy_79 rfl ?_
                    refine P_iload (pc := 81) dX6_shortenBy_81 rfl ?_
                    refine P_iload (pc := 83) dX6_shortenBy_83 rfl ?_
                    refine P_iaddN (pc := 85) dX6_shortenBy_85 ?_
                    refine P_iast (pc := 86) (b) dX6_shortenBy_86 (shr_99 _ (by omega)) rfl (by omega) (by decide) ?_
                    refine P_iincN (pc := 87) (c := 1) dX6_shortenBy_87 rfl (by decide) (by decide) rfl ?_
                    refine P_goto (pc := 90) (tgt := 20) dX6_shortenBy_90 (by decide) ?_
                    exact ihb (b + 1) _ _ (by omega) (by omega) (hF.u (by omega)) (hR.u (by omega) (by omega) (by rw [zMx_n, zds_lt (by rw [zD_s]; omega)]; exact congrArg nI (by rw [zD_s, Nat.min_eq_right (by omega)])) (fun x y hx hy e => zMx_b e))
                · rw [zds_ge h2]
                  refine P_istore (pc := 42) dX6_shortenBy_42 (by decide) rfl ?_
                  refine P_iload (pc := 44) dX6_shortenBy_44 rfl ?_
                  refine P_bipush (pc := 46) (x := (-4)) dX6_shortenBy_46 (by decide) ?_
                  refine P_icmp_eqT (pc := 48) (tgt := 87) dX6_shortenBy_48 (by decide) (by decide) ?_
                  refine P_iincN (pc := 87) (c := 1) dX6_shortenBy_87 rfl (by decide) (by decide) rfl ?_
                  refine P_goto (pc := 90) (tgt := 20) dX6_shortenBy_90 (by decide) ?_
                  exact ihb (b + 1) _ _ (by omega) (by omega) hF (hR.c (fun x y hx hy => by
                    by_cases e : x = a ∧ y = b
                    · rw [e.1, e.2, zMx_n, zMx_h]; exact zD_skip hN.1 (Or.inr h2)
                    · exact zMx_b e))
          exact loopB (nc + 1) 0 _ J (by omega) (by omega) hF hR
        · rw [zds_ge h1]
          refine P_istore (pc := 15) dX6_shortenBy_15 (by decide) rfl ?_
          refine P_iconst (pc := 17) (x := nI 0) dX6_shortenBy_17 (by decide) ?_
          refine P_istore (pc := 18) dX6_shortenBy_18 (by decide) rfl ?_
          refine P_iload (pc := 20) dX6_shortenBy_20 rfl ?_
          refine P_aload_n (pc := 22) dX6_shortenBy_22 rfl ?_
          refine P_geti (pc := 23) 6 0 (x := nI (nc)) dX6_shortenBy_23 fl_X6_26 sh_37 fi_6_0 ((congrFun (hF 37 (by decide)) 0).trans hnc) ?_
          refine P_icmp_geN (pc := 26) (tgt := 93) dX6_shortenBy_26 (by decide) (by omega) (by omega) (fun h26 => ?_) (fun h26 => ?_)
          · exact hend 0 _ _ J (by omega) hF hR (fun q h8 h9 => zD_skip hN.1 (Or.inl h1))
          · refine P_iload (pc := 29) dX6_shortenBy_29 rfl ?_
            refine P_bipush (pc := 31) (x := (-4)) dX6_shortenBy_31 (by decide) ?_
            refine P_icmp_eqT (pc := 33) (tgt := 93) dX6_shortenBy_33 (by decide) (by decide) ?_
            exact hend 0 _ _ J (by omega) hF hR (fun q h8 h9 => zD_skip hN.1 (Or.inl h1))
  show ZP _ _ _ _ [some _, some _, some _, none, none, none, none] _ _ _ _
  refine P_iconst (pc := 0) (x := nI 0) dX6_shortenBy_0 (by decide) ?_
  refine P_istore_n (pc := 1) dX6_shortenBy_1 (by decide) rfl ?_
  exact loop (nc + 1) 0 none none none I (by omega) (by omega) zRf.rf (hR0.c (fun x y _ _ => by unfold zMx; rw [if_neg (by omega)]))
