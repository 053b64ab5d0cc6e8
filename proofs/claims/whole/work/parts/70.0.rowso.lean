/-! what lay needs, once more at the cells that are there when the system's own constructor calls it: the first 109 -/
def SH_o : AS := [(11, 13), (7, 2), (14, 200), (2, 3), (15, 3), (8, 6), (6, 6), (15, 12), (15, 12), (18, 8), (15, 8), (15, 8), (15, 8), (15, 8), (15, 8), (15, 8), (15, 8), (15, 8), (18, 8), (15, 8), (15, 8), (15, 8), (15, 8), (15, 8), (15, 8), (15, 8), (15, 8), (5, 4), (15, 9), (15, 9), (15, 9), (10, 5), (15, 4), (15, 4), (15, 4), (15, 4), (8, 6), (6, 6), (15, 12), (15, 12), (18, 8), (15, 8), (15, 8), (15, 8), (15, 8), (15, 8), (15, 8), (15, 8), (15, 8), (18, 8), (15, 8), (15, 8), (15, 8), (15, 8), (15, 8), (15, 8), (15, 8), (15, 8), (5, 4), (15, 9), (15, 9), (15, 9), (10, 5), (15, 4), (15, 4), (15, 4), (15, 4), (9, 7), (15, 31), (16, 30), (5, 4), (15, 9), (15, 9), (15, 9), (0, 7), (15, 8), (15, 8), (15, 8), (15, 8), (15, 8), (3, 3), (17, 2), (18, 2), (15, 4), (15, 4), (5, 4), (15, 9), (15, 9), (15, 9), (5, 4), (15, 9), (15, 9), (15, 9), (4, 4), (15, 8), (15, 8), (15, 8), (1, 2), (18, 8), (15, 8), (15, 8), (15, 8), (15, 8), (15, 8), (15, 8), (15, 8), (15, 8), (15, 8), (15, 4)]
def zF_o (t : Nat) : AR := fun a k => if a < 109 then zF t a k else none
def ZP_o (l : Launch) (D : va_G) (M : ZM) (pc : Nat) (L : List (Option Value)) (S : List Value) (I : AI) (F : AR) (Post : Option Int32 → AI → AR → Prop) : Prop := ∃ (v : Option Int32) (I' : AI) (F' : AR), ZR l D M pc L S I F SH_o v I' F' SH_o ∧ Post v I' F'
theorem sh_0_o : SH_o[0]? = some (11, 13) := rfl
theorem sh_1_o : SH_o[1]? = some (7, 2) := rfl
theorem sh_2_o : SH_o[2]? = some (14, 200) := rfl
theorem sh_3_o : SH_o[3]? = some (2, 3) := rfl
theorem sh_4_o : SH_o[4]? = some (15, 3) := rfl
theorem sh_36_o : SH_o[36]? = some (8, 6) := rfl
theorem sh_37_o : SH_o[37]? = some (6, 6) := rfl
theorem sh_38_o : SH_o[38]? = some (15, 12) := rfl
theorem sh_39_o : SH_o[39]? = some (15, 12) := rfl
theorem sh_40_o : SH_o[40]? = some (18, 8) := rfl
theorem sh_49_o : SH_o[49]? = some (18, 8) := rfl
theorem sh_58_o : SH_o[58]? = some (5, 4) := rfl
theorem sh_59_o : SH_o[59]? = some (15, 9) := rfl
theorem sh_60_o : SH_o[60]? = some (15, 9) := rfl
theorem sh_61_o : SH_o[61]? = some (15, 9) := rfl
theorem sh_62_o : SH_o[62]? = some (10, 5) := rfl
theorem sh_63_o : SH_o[63]? = some (15, 4) := rfl
theorem sh_64_o : SH_o[64]? = some (15, 4) := rfl
theorem sh_65_o : SH_o[65]? = some (15, 4) := rfl
theorem sh_66_o : SH_o[66]? = some (15, 4) := rfl
theorem sh_74_o : SH_o[74]? = some (0, 7) := rfl
theorem sh_80_o : SH_o[80]? = some (3, 3) := rfl
theorem sh_93_o : SH_o[93]? = some (4, 4) := rfl
theorem F_0_0_o {t : Nat} : zF_o t 0 0 = some 1 := rfl
theorem F_0_1_o {t : Nat} : zF_o t 0 1 = some 3 := rfl
theorem F_0_2_o {t : Nat} : zF_o t 0 2 = some t := rfl
theorem F_0_3_o {t : Nat} : zF_o t 0 3 = some (41 - t) := rfl
theorem F_0_6_o {t : Nat} : zF_o t 0 6 = some 74 := rfl
theorem F_0_7_o {t : Nat} : zF_o t 0 7 = some 80 := rfl
theorem F_0_8_o {t : Nat} : zF_o t 0 8 = some 93 := rfl
theorem F_1_0_o {t : Nat} : zF_o t 1 0 = some 2 := rfl
theorem F_3_0_o {t : Nat} : zF_o t 3 0 = some 4 := rfl
theorem F_36_0_o {t : Nat} : zF_o t 36 0 = some 37 := rfl
theorem F_36_1_o {t : Nat} : zF_o t 36 1 = some 58 := rfl
theorem F_36_2_o {t : Nat} : zF_o t 36 2 = some 62 := rfl
theorem F_37_2_o {t : Nat} : zF_o t 37 2 = some 38 := rfl
theorem F_37_3_o {t : Nat} : zF_o t 37 3 = some 39 := rfl
theorem F_37_4_o {t : Nat} : zF_o t 37 4 = some 40 := rfl
theorem F_37_5_o {t : Nat} : zF_o t 37 5 = some 49 := rfl
theorem F_58_0_o {t : Nat} : zF_o t 58 0 = some 59 := rfl
theorem F_58_1_o {t : Nat} : zF_o t 58 1 = some 60 := rfl
theorem F_58_2_o {t : Nat} : zF_o t 58 2 = some 61 := rfl
theorem F_62_0_o {t : Nat} : zF_o t 62 0 = some 63 := rfl
theorem F_62_1_o {t : Nat} : zF_o t 62 1 = some 64 := rfl
theorem F_62_2_o {t : Nat} : zF_o t 62 2 = some 65 := rfl
theorem F_62_3_o {t : Nat} : zF_o t 62 3 = some 66 := rfl
section ZO1
variable {l : Launch} {D : va_G} {M : ZM} {pc : Nat} {L : List (Option Value)} {S : List Value} {I : AI} {F : AR} {Post : Option Int32 → AI → AR → Prop}
theorem P_iret_o {x : Int32} (hd : decode M.2.1 pc = .ok (.ireturn, 1)) (h : Post (some x) I F) : ZP_o l D M pc L [.int x] I F Post := ⟨_, _, _, R_iret hd, h⟩
theorem P_ret_o (hd : decode M.2.1 pc = .ok (.return_, 1)) (h : Post none I F) : ZP_o l D M pc L [] I F Post := ⟨_, _, _, R_ret hd, h⟩
theorem P_iadd_o {x y : Int32} (hd : decode M.2.1 pc = .ok (.iadd, 1))  (k : ZP_o l D M (pc + 1) L (.int (x + y) :: S) I F Post) : ZP_o l D M (pc) L (.int y :: .int x :: S) I F Post := by
  obtain ⟨v9, I9, F9, h9, hp9⟩ := k
  exact ⟨v9, I9, F9, R_iadd hd h9, hp9⟩
theorem P_isub_o {x y : Int32} (hd : decode M.2.1 pc = .ok (.isub, 1))  (k : ZP_o l D M (pc + 1) L (.int (x - y) :: S) I F Post) : ZP_o l D M (pc) L (.int y :: .int x :: S) I F Post := by
  obtain ⟨v9, I9, F9, h9, hp9⟩ := k
  exact ⟨v9, I9, F9, R_isub hd h9, hp9⟩
theorem P_imul_o {x y : Int32} (hd : decode M.2.1 pc = .ok (.imul, 1))  (k : ZP_o l D M (pc + 1) L (.int (x * y) :: S) I F Post) : ZP_o l D M (pc) L (.int y :: .int x :: S) I F Post := by
  obtain ⟨v9, I9, F9, h9, hp9⟩ := k
  exact ⟨v9, I9, F9, R_imul hd h9, hp9⟩
theorem P_i2c_o {x : Int32} (hd : decode M.2.1 pc = .ok (.i2c, 1))  (k : ZP_o l D M (pc + 1) L (.int (x.toUInt32 % 65536).toInt32 :: S) I F Post) : ZP_o l D M (pc) L (.int x :: S) I F Post := by
  obtain ⟨v9, I9, F9, h9, hp9⟩ := k
  exact ⟨v9, I9, F9, R_i2c hd h9, hp9⟩
theorem P_dup_o {a : Value} (hd : decode M.2.1 pc = .ok (.dup, 1)) (ha : a.category = 1) (k : ZP_o l D M (pc + 1) L (a :: a :: S) I F Post) : ZP_o l D M (pc) L (a :: S) I F Post := by
  obtain ⟨v9, I9, F9, h9, hp9⟩ := k
  exact ⟨v9, I9, F9, R_dup hd ha h9, hp9⟩
theorem P_pop_o {a : Value} (hd : decode M.2.1 pc = .ok (.pop, 1)) (ha : a.category = 1) (k : ZP_o l D M (pc + 1) L (S) I F Post) : ZP_o l D M (pc) L (a :: S) I F Post := by
  obtain ⟨v9, I9, F9, h9, hp9⟩ := k
  exact ⟨v9, I9, F9, R_pop hd ha h9, hp9⟩
theorem P_iconst_o {n : Int} {x : Int32} (hd : decode M.2.1 pc = .ok (.iconst n, 1)) (hv : Int32.ofInt n = x) (k : ZP_o l D M (pc + 1) L (.int x :: S) I F Post) : ZP_o l D M (pc) L (S) I F Post := by
  obtain ⟨v9, I9, F9, h9, hp9⟩ := k
  exact ⟨v9, I9, F9, R_iconst hd hv h9, hp9⟩
theorem P_bipush_o {n : Int} {x : Int32} (hd : decode M.2.1 pc = .ok (.bipush n, 2)) (hv : (Int8.ofInt n).toInt32 = x) (k : ZP_o l D M (pc + 2) L (.int x :: S) I F Post) : ZP_o l D M (pc) L (S) I F Post := by
  obtain ⟨v9, I9, F9, h9, hp9⟩ := k
  exact ⟨v9, I9, F9, R_bipush hd hv h9, hp9⟩
theorem P_sipush_o {n : Int} {x : Int32} (hd : decode M.2.1 pc = .ok (.sipush n, 3)) (hv : (Int16.ofInt n).toInt32 = x) (k : ZP_o l D M (pc + 3) L (.int x :: S) I F Post) : ZP_o l D M (pc) L (S) I F Post := by
  obtain ⟨v9, I9, F9, h9, hp9⟩ := k
  exact ⟨v9, I9, F9, R_sipush hd hv h9, hp9⟩
theorem P_iload_n_o {n : Fin 4} {x : Int32} (hd : decode M.2.1 pc = .ok (.iload_n n, 1)) (hL : L[(n : Nat)]? = some (some (.int x))) (k : ZP_o l D M (pc + 1) L (.int x :: S) I F Post) : ZP_o l D M (pc) L (S) I F Post := by
  obtain ⟨v9, I9, F9, h9, hp9⟩ := k
  exact ⟨v9, I9, F9, R_iload_n hd hL h9, hp9⟩
theorem P_iload_o {n : Nat} {x : Int32} (hd : decode M.2.1 pc = .ok (.iload n, 2)) (hL : L[n]? = some (some (.int x))) (k : ZP_o l D M (pc + 2) L (.int x :: S) I F Post) : ZP_o l D M (pc) L (S) I F Post := by
  obtain ⟨v9, I9, F9, h9, hp9⟩ := k
  exact ⟨v9, I9, F9, R_iload hd hL h9, hp9⟩
theorem P_aload_n_o {n : Fin 4} {x : Nat} (hd : decode M.2.1 pc = .ok (.aload_n n, 1)) (hL : L[(n : Nat)]? = some (some (.ref x))) (k : ZP_o l D M (pc + 1) L (.ref x :: S) I F Post) : ZP_o l D M (pc) L (S) I F Post := by
  obtain ⟨v9, I9, F9, h9, hp9⟩ := k
  exact ⟨v9, I9, F9, R_aload_n hd hL h9, hp9⟩
theorem P_istore_n_o {n : Fin 4} {x : Int32} (hd : decode M.2.1 pc = .ok (.istore_n n, 1)) (hn : (n : Nat) < M.2.2.1) (hg : zlong L (n : Nat) = false) (k : ZP_o l D M (pc + 1) (L.set (n : Nat) (some (.int x))) (S) I F Post) : ZP_o l D M (pc) L (.int x :: S) I F Post := by
  obtain ⟨v9, I9, F9, h9, hp9⟩ := k
  exact ⟨v9, I9, F9, R_istore_n hd hn hg h9, hp9⟩
theorem P_istore_o {n : Nat} {x : Int32} (hd : decode M.2.1 pc = .ok (.istore n, 2)) (hn : n < M.2.2.1) (hg : zlong L n = false) (k : ZP_o l D M (pc + 2) (L.set n (some (.int x))) (S) I F Post) : ZP_o l D M (pc) L (.int x :: S) I F Post := by
  obtain ⟨v9, I9, F9, h9, hp9⟩ := k
  exact ⟨v9, I9, F9, R_istore hd hn hg h9, hp9⟩
theorem P_astore_n_o {n : Fin 4} {x : Nat} (hd : decode M.2.1 pc = .ok (.astore_n n, 1)) (hn : (n : Nat) < M.2.2.1) (hg : zlong L (n : Nat) = false) (k : ZP_o l D M (pc + 1) (L.set (n : Nat) (some (.ref x))) (S) I F Post) : ZP_o l D M (pc) L (.ref x :: S) I F Post := by
  obtain ⟨v9, I9, F9, h9, hp9⟩ := k
  exact ⟨v9, I9, F9, R_astore_n hd hn hg h9, hp9⟩
theorem P_iinc_o {i : Nat} {n : Int} {x y : Int32} (hd : decode M.2.1 pc = .ok (.iinc i n, 3)) (hL : L[i]? = some (some (.int x))) (hv : x + Int32.ofInt n = y) (hn : i < M.2.2.1) (hg : zlong L i = false) (k : ZP_o l D M (pc + 3) (L.set i (some (.int y))) (S) I F Post) : ZP_o l D M (pc) L (S) I F Post := by
  obtain ⟨v9, I9, F9, h9, hp9⟩ := k
  exact ⟨v9, I9, F9, R_iinc hd hL hv hn hg h9, hp9⟩
theorem P_goto_o {off : Int} {tgt : Nat} (hd : decode M.2.1 pc = .ok (.goto off, 3)) (ht : (pc : Int) + off = (tgt : Int)) (k : ZP_o l D M (tgt) L (S) I F Post) : ZP_o l D M (pc) L (S) I F Post := by
  obtain ⟨v9, I9, F9, h9, hp9⟩ := k
  exact ⟨v9, I9, F9, R_goto hd ht h9, hp9⟩
theorem P_icmp_eq_o {x y : Int32} {off : Int} {tgt : Nat} (hd : decode M.2.1 pc = .ok (.if_icmp .eq off, 3)) (ht : (pc : Int) + off = (tgt : Int)) (kt : x = y → ZP_o l D M (tgt) L (S) I F Post) (kf : ¬ x = y → ZP_o l D M (pc + 3) L (S) I F Post) : ZP_o l D M (pc) L (.int y :: .int x :: S) I F Post := by
  by_cases hcc : x = y
  · obtain ⟨v9, I9, F9, h9, hp9⟩ := kt hcc
    exact ⟨v9, I9, F9, R_icmp_eq hd ht (fun _ => h9) (fun z => by first | exact absurd hcc z | exact absurd z hcc), hp9⟩
  · obtain ⟨v9, I9, F9, h9, hp9⟩ := kf (by first | exact hcc | simpa using hcc)
    exact ⟨v9, I9, F9, R_icmp_eq hd ht (fun z => absurd z hcc) (fun _ => h9), hp9⟩
theorem P_if_eq_o {x : Int32} {off : Int} {tgt : Nat} (hd : decode M.2.1 pc = .ok (.ifCond .eq off, 3)) (ht : (pc : Int) + off = (tgt : Int)) (kt : x = 0 → ZP_o l D M (tgt) L (S) I F Post) (kf : ¬ x = 0 → ZP_o l D M (pc + 3) L (S) I F Post) : ZP_o l D M (pc) L (.int x :: S) I F Post := by
  by_cases hcc : x = 0
  · obtain ⟨v9, I9, F9, h9, hp9⟩ := kt hcc
    exact ⟨v9, I9, F9, R_if_eq hd ht (fun _ => h9) (fun z => by first | exact absurd hcc z | exact absurd z hcc), hp9⟩
  · obtain ⟨v9, I9, F9, h9, hp9⟩ := kf (by first | exact hcc | simpa using hcc)
    exact ⟨v9, I9, F9, R_if_eq hd ht (fun z => absurd z hcc) (fun _ => h9), hp9⟩
theorem P_icmp_ne_o {x y : Int32} {off : Int} {tgt : Nat} (hd : decode M.2.1 pc = .ok (.if_icmp .ne off, 3)) (ht : (pc : Int) + off = (tgt : Int)) (kt : ¬ x = y → ZP_o l D M (tgt) L (S) I F Post) (kf : x = y → ZP_o l D M (pc + 3) L (S) I F Post) : ZP_o l D M (pc) L (.int y :: .int x :: S) I F Post := by
  by_cases hcc : ¬ x = y
  · obtain ⟨v9, I9, F9, h9, hp9⟩ := kt hcc
    exact ⟨v9, I9, F9, R_icmp_ne hd ht (fun _ => h9) (fun z => by first | exact absurd hcc z | exact absurd z hcc), hp9⟩
  · obtain ⟨v9, I9, F9, h9, hp9⟩ := kf (by first | exact hcc | simpa using hcc)
    exact ⟨v9, I9, F9, R_icmp_ne hd ht (fun z => absurd z hcc) (fun _ => h9), hp9⟩
theorem P_if_ne_o {x : Int32} {off : Int} {tgt : Nat} (hd : decode M.2.1 pc = .ok (.ifCond .ne off, 3)) (ht : (pc : Int) + off = (tgt : Int)) (kt : ¬ x = 0 → ZP_o l D M (tgt) L (S) I F Post) (kf : x = 0 → ZP_o l D M (pc + 3) L (S) I F Post) : ZP_o l D M (pc) L (.int x :: S) I F Post := by
  by_cases hcc : ¬ x = 0
  · obtain ⟨v9, I9, F9, h9, hp9⟩ := kt hcc
    exact ⟨v9, I9, F9, R_if_ne hd ht (fun _ => h9) (fun z => by first | exact absurd hcc z | exact absurd z hcc), hp9⟩
  · obtain ⟨v9, I9, F9, h9, hp9⟩ := kf (by first | exact hcc | simpa using hcc)
    exact ⟨v9, I9, F9, R_if_ne hd ht (fun z => absurd z hcc) (fun _ => h9), hp9⟩
theorem P_icmp_lt_o {x y : Int32} {off : Int} {tgt : Nat} (hd : decode M.2.1 pc = .ok (.if_icmp .lt off, 3)) (ht : (pc : Int) + off = (tgt : Int)) (kt : x < y → ZP_o l D M (tgt) L (S) I F Post) (kf : ¬ x < y → ZP_o l D M (pc + 3) L (S) I F Post) : ZP_o l D M (pc) L (.int y :: .int x :: S) I F Post := by
  by_cases hcc : x < y
  · obtain ⟨v9, I9, F9, h9, hp9⟩ := kt hcc
    exact ⟨v9, I9, F9, R_icmp_lt hd ht (fun _ => h9) (fun z => by first | exact absurd hcc z | exact absurd z hcc), hp9⟩
  · obtain ⟨v9, I9, F9, h9, hp9⟩ := kf (by first | exact hcc | simpa using hcc)
    exact ⟨v9, I9, F9, R_icmp_lt hd ht (fun z => absurd z hcc) (fun _ => h9), hp9⟩
theorem P_if_lt_o {x : Int32} {off : Int} {tgt : Nat} (hd : decode M.2.1 pc = .ok (.ifCond .lt off, 3)) (ht : (pc : Int) + off = (tgt : Int)) (kt : x < 0 → ZP_o l D M (tgt) L (S) I F Post) (kf : ¬ x < 0 → ZP_o l D M (pc + 3) L (S) I F Post) : ZP_o l D M (pc) L (.int x :: S) I F Post := by
  by_cases hcc : x < 0
  · obtain ⟨v9, I9, F9, h9, hp9⟩ := kt hcc
    exact ⟨v9, I9, F9, R_if_lt hd ht (fun _ => h9) (fun z => by first | exact absurd hcc z | exact absurd z hcc), hp9⟩
  · obtain ⟨v9, I9, F9, h9, hp9⟩ := kf (by first | exact hcc | simpa using hcc)
    exact ⟨v9, I9, F9, R_if_lt hd ht (fun z => absurd z hcc) (fun _ => h9), hp9⟩
theorem P_icmp_ge_o {x y : Int32} {off : Int} {tgt : Nat} (hd : decode M.2.1 pc = .ok (.if_icmp .ge off, 3)) (ht : (pc : Int) + off = (tgt : Int)) (kt : y ≤ x → ZP_o l D M (tgt) L (S) I F Post) (kf : ¬ y ≤ x → ZP_o l D M (pc + 3) L (S) I F Post) : ZP_o l D M (pc) L (.int y :: .int x :: S) I F Post := by
  by_cases hcc : y ≤ x
  · obtain ⟨v9, I9, F9, h9, hp9⟩ := kt hcc
    exact ⟨v9, I9, F9, R_icmp_ge hd ht (fun _ => h9) (fun z => by first | exact absurd hcc z | exact absurd z hcc), hp9⟩
  · obtain ⟨v9, I9, F9, h9, hp9⟩ := kf (by first | exact hcc | simpa using hcc)
    exact ⟨v9, I9, F9, R_icmp_ge hd ht (fun z => absurd z hcc) (fun _ => h9), hp9⟩
theorem P_if_gt_o {x : Int32} {off : Int} {tgt : Nat} (hd : decode M.2.1 pc = .ok (.ifCond .gt off, 3)) (ht : (pc : Int) + off = (tgt : Int)) (kt : 0 < x → ZP_o l D M (tgt) L (S) I F Post) (kf : ¬ 0 < x → ZP_o l D M (pc + 3) L (S) I F Post) : ZP_o l D M (pc) L (.int x :: S) I F Post := by
  by_cases hcc : 0 < x
  · obtain ⟨v9, I9, F9, h9, hp9⟩ := kt hcc
    exact ⟨v9, I9, F9, R_if_gt hd ht (fun _ => h9) (fun z => by first | exact absurd hcc z | exact absurd z hcc), hp9⟩
  · obtain ⟨v9, I9, F9, h9, hp9⟩ := kf (by first | exact hcc | simpa using hcc)
    exact ⟨v9, I9, F9, R_if_gt hd ht (fun z => absurd z hcc) (fun _ => h9), hp9⟩
theorem P_icmp_le_o {x y : Int32} {off : Int} {tgt : Nat} (hd : decode M.2.1 pc = .ok (.if_icmp .le off, 3)) (ht : (pc : Int) + off = (tgt : Int)) (kt : x ≤ y → ZP_o l D M (tgt) L (S) I F Post) (kf : ¬ x ≤ y → ZP_o l D M (pc + 3) L (S) I F Post) : ZP_o l D M (pc) L (.int y :: .int x :: S) I F Post := by
  by_cases hcc : x ≤ y
  · obtain ⟨v9, I9, F9, h9, hp9⟩ := kt hcc
    exact ⟨v9, I9, F9, R_icmp_le hd ht (fun _ => h9) (fun z => by first | exact absurd hcc z | exact absurd z hcc), hp9⟩
  · obtain ⟨v9, I9, F9, h9, hp9⟩ := kf (by first | exact hcc | simpa using hcc)
    exact ⟨v9, I9, F9, R_icmp_le hd ht (fun z => absurd z hcc) (fun _ => h9), hp9⟩
theorem P_lookup_o {dflt : Int} {ps : Array (Int × Int)} {len : Nat} {x : Int32} {off : Int} {tgt : Nat} (hd : decode M.2.1 pc = .ok (.lookupswitch dflt ps, len)) (hp : (ps.toList.zip (ps.toList.drop 1)).all (fun (a, next) => a.1 < next.1) = true) (ho : Op.lookupswitch.offset ps.toList dflt x.toInt = off) (ht : (pc : Int) + off = (tgt : Int)) (k : ZP_o l D M (tgt) L (S) I F Post) : ZP_o l D M (pc) L (.int x :: S) I F Post := by
  obtain ⟨v9, I9, F9, h9, hp9⟩ := k
  exact ⟨v9, I9, F9, R_lookup hd hp ho ht h9, hp9⟩
theorem P_geti_o {idx a : Nat} (c k : Nat) {n : Nat} {x : Int32} (hd : decode M.2.1 pc = .ok (.getfield idx, 3)) (hf : zFl M.1.cls idx c k) (hs : SH_o[a]? = some (c, n)) (hc : (decide (c < 13) && decide (k < n) && decide (n = zNf c) && !(zTy c k).isReference) = true) (hx : I a k = x) (kk : ZP_o l D M (pc + 3) L (.int x :: S) I F Post) : ZP_o l D M pc L (.ref a :: S) I F Post := by
  obtain ⟨v9, I9, F9, h9, hp9⟩ := kk
  exact ⟨v9, I9, F9, R_geti c k hd hf hs hc hx h9, hp9⟩
theorem P_getr_o {idx a : Nat} (c k : Nat) {n b : Nat} (hd : decode M.2.1 pc = .ok (.getfield idx, 3)) (hf : zFl M.1.cls idx c k) (hs : SH_o[a]? = some (c, n)) (hc : (decide (c < 13) && decide (k < n) && decide (n = zNf c) && (zTy c k).isReference) = true) (hx : F a k = some b) (kk : ZP_o l D M (pc + 3) L (.ref b :: S) I F Post) : ZP_o l D M pc L (.ref a :: S) I F Post := by
  obtain ⟨v9, I9, F9, h9, hp9⟩ := kk
  exact ⟨v9, I9, F9, R_getr c k hd hf hs hc hx h9, hp9⟩
theorem P_puti_o {idx a : Nat} (c k : Nat) {n : Nat} {x : Int32} (hd : decode M.2.1 pc = .ok (.putfield idx, 3)) (hf : zFl M.1.cls idx c k) (hs : SH_o[a]? = some (c, n)) (hc : (decide (c < 13) && decide (k < n) && decide (n = zNf c) && !(zTy c k).isReference && !(zTb c k).2.2.2) = true) (hn : narrow (zTy c k) (.int x) = .int x) (hfit : fits (zTy c k) (.int x) = true) (kk : ZP_o l D M (pc + 3) L S (zu I a k x) F Post) : ZP_o l D M pc L (.int x :: .ref a :: S) I F Post := by
  obtain ⟨v9, I9, F9, h9, hp9⟩ := kk
  exact ⟨v9, I9, F9, R_puti c k hd hf hs hc hn hfit h9, hp9⟩
theorem P_iald_o {a n : Nat} {i : Int32} {x : Int32} (j : Nat) (hd : decode M.2.1 pc = .ok (.iaload, 1)) (hs : SH_o[a]? = some (15, n)) (hi : i = nI j) (hj : j < n) (hn : n < 2 ^ 31) (hx : I a j = x) (kk : ZP_o l D M (pc + 1) L (.int x :: S) I F Post) : ZP_o l D M pc L (.int i :: .ref a :: S) I F Post := by
  obtain ⟨v9, I9, F9, h9, hp9⟩ := kk
  exact ⟨v9, I9, F9, R_iald j hd hs hi hj hn hx h9, hp9⟩
theorem P_cald_o {a n : Nat} {i : Int32} {x : Int32} (j : Nat) (hd : decode M.2.1 pc = .ok (.caload, 1)) (hs : SH_o[a]? = some (14, n)) (hi : i = nI j) (hj : j < n) (hn : n < 2 ^ 31) (hx : I a j = x) (kk : ZP_o l D M (pc + 1) L (.int x :: S) I F Post) : ZP_o l D M pc L (.int i :: .ref a :: S) I F Post := by
  obtain ⟨v9, I9, F9, h9, hp9⟩ := kk
  exact ⟨v9, I9, F9, R_cald j hd hs hi hj hn hx h9, hp9⟩
theorem P_iast_o {a n : Nat} {i : Int32} {x : Int32} (j : Nat) (hd : decode M.2.1 pc = .ok (.iastore, 1)) (hs : SH_o[a]? = some (15, n)) (hi : i = nI j) (hj : j < n) (hn : n < 2 ^ 31) (kk : ZP_o l D M (pc + 1) L S (zu I a j x) F Post) : ZP_o l D M pc L (.int x :: .int i :: .ref a :: S) I F Post := by
  obtain ⟨v9, I9, F9, h9, hp9⟩ := kk
  exact ⟨v9, I9, F9, R_iast j hd hs hi hj hn h9, hp9⟩
theorem P_cast_o {a n : Nat} {i : Int32} {x : Int32} (j : Nat) (hd : decode M.2.1 pc = .ok (.castore, 1)) (hs : SH_o[a]? = some (14, n)) (hi : i = nI j) (hj : j < n) (hn : n < 2 ^ 31) (kk : ZP_o l D M (pc + 1) L S (zu I a j (vp_nar .char x)) F Post) : ZP_o l D M pc L (.int x :: .int i :: .ref a :: S) I F Post := by
  obtain ⟨v9, I9, F9, h9, hp9⟩ := kk
  exact ⟨v9, I9, F9, R_cast j hd hs hi hj hn h9, hp9⟩
theorem P_alen_o {a k n : Nat} {x : Int32} (hd : decode M.2.1 pc = .ok (.arraylength, 1)) (hs : SH_o[a]? = some (k, n)) (h1 : 13 ≤ k) (h2 : k < 17) (hx : nI n = x) (kk : ZP_o l D M (pc + 1) L (.int x :: S) I F Post) : ZP_o l D M pc L (.ref a :: S) I F Post := by
  obtain ⟨v9, I9, F9, h9, hp9⟩ := kk
  exact ⟨v9, I9, F9, R_alen hd hs h1 h2 hx h9, hp9⟩
theorem P_aald_o {a k n b : Nat} {i : Int32} (j : Nat) (hd : decode M.2.1 pc = .ok (.aaload, 1)) (hs : SH_o[a]? = some (k, n)) (hk : (k == 17 || k == 18) = true) (hi : i = nI j) (hj : j < n) (hn : n < 2 ^ 31) (hx : F a j = some b) (kk : ZP_o l D M (pc + 1) L (.ref b :: S) I F Post) : ZP_o l D M pc L (.int i :: .ref a :: S) I F Post := by
  obtain ⟨v9, I9, F9, h9, hp9⟩ := kk
  exact ⟨v9, I9, F9, R_aald j hd hs hk hi hj hn hx h9, hp9⟩
theorem P_iaddN_o {a b : Nat} (hd : decode M.2.1 pc = .ok (.iadd, 1)) (k : ZP_o l D M (pc + 1) L (.int (nI (a + b)) :: S) I F Post) : ZP_o l D M pc L (.int (nI b) :: .int (nI a) :: S) I F Post := P_iadd_o hd (by rw [nI_add]; exact k)
theorem P_imulN_o {a b : Nat} (hd : decode M.2.1 pc = .ok (.imul, 1)) (k : ZP_o l D M (pc + 1) L (.int (nI (a * b)) :: S) I F Post) : ZP_o l D M pc L (.int (nI b) :: .int (nI a) :: S) I F Post := P_imul_o hd (by rw [pk_mul]; exact k)
theorem P_isubN_o {a b : Nat} (hd : decode M.2.1 pc = .ok (.isub, 1)) (h : b ≤ a) (k : ZP_o l D M (pc + 1) L (.int (nI (a - b)) :: S) I F Post) : ZP_o l D M pc L (.int (nI b) :: .int (nI a) :: S) I F Post := P_isub_o hd (by rw [pk_sub h]; exact k)
theorem P_iincN_o {i a c : Nat} {n : Int} (hd : decode M.2.1 pc = .ok (.iinc i n, 3)) (hL : L[i]? = some (some (.int (nI a)))) (hv : Int32.ofInt n = nI c) (hn : i < M.2.2.1) (hg : zlong L i = false) (k : ZP_o l D M (pc + 3) (L.set i (some (.int (nI (a + c))))) (S) I F Post) : ZP_o l D M pc L (S) I F Post := P_iinc_o hd hL (by rw [hv, nI_add]) hn hg k
theorem P_icmp_eqN_o {a b : Nat} {off : Int} {tgt : Nat} (hd : decode M.2.1 pc = .ok (.if_icmp .eq off, 3)) (ht : (pc : Int) + off = (tgt : Int)) (ha : a < 2 ^ 31) (hb : b < 2 ^ 31) (kt : a = b → ZP_o l D M tgt L (S) I F Post) (kf : ¬ a = b → ZP_o l D M (pc + 3) L (S) I F Post) : ZP_o l D M pc L (.int (nI b) :: .int (nI a) :: S) I F Post := by
  have e := nI_eq ha hb
  refine P_icmp_eq_o hd ht (fun h => kt ?_) (fun h => kf ?_)
  · first | exact e.mp h | exact fun z => h (e.mpr z)
  · first | exact e.mp h | exact fun z => h (e.mpr z) | exact Classical.byContradiction (fun z => h (fun y => z (e.mp y)))
theorem P_icmp_neN_o {a b : Nat} {off : Int} {tgt : Nat} (hd : decode M.2.1 pc = .ok (.if_icmp .ne off, 3)) (ht : (pc : Int) + off = (tgt : Int)) (ha : a < 2 ^ 31) (hb : b < 2 ^ 31) (kt : ¬ a = b → ZP_o l D M tgt L (S) I F Post) (kf : a = b → ZP_o l D M (pc + 3) L (S) I F Post) : ZP_o l D M pc L (.int (nI b) :: .int (nI a) :: S) I F Post := by
  have e := nI_eq ha hb
  refine P_icmp_ne_o hd ht (fun h => kt ?_) (fun h => kf ?_)
  · first | exact e.mp h | exact fun z => h (e.mpr z)
  · first | exact e.mp h | exact fun z => h (e.mpr z) | exact Classical.byContradiction (fun z => h (fun y => z (e.mp y)))
theorem P_icmp_ltN_o {a b : Nat} {off : Int} {tgt : Nat} (hd : decode M.2.1 pc = .ok (.if_icmp .lt off, 3)) (ht : (pc : Int) + off = (tgt : Int)) (ha : a < 2 ^ 31) (hb : b < 2 ^ 31) (kt : a < b → ZP_o l D M tgt L (S) I F Post) (kf : ¬ a < b → ZP_o l D M (pc + 3) L (S) I F Post) : ZP_o l D M pc L (.int (nI b) :: .int (nI a) :: S) I F Post := by
  have e := nI_ltI ha hb
  refine P_icmp_lt_o hd ht (fun h => kt ?_) (fun h => kf ?_)
  · first | exact e.mp h | exact fun z => h (e.mpr z)
  · first | exact e.mp h | exact fun z => h (e.mpr z) | exact Classical.byContradiction (fun z => h (fun y => z (e.mp y)))
theorem P_icmp_geN_o {a b : Nat} {off : Int} {tgt : Nat} (hd : decode M.2.1 pc = .ok (.if_icmp .ge off, 3)) (ht : (pc : Int) + off = (tgt : Int)) (ha : a < 2 ^ 31) (hb : b < 2 ^ 31) (kt : b ≤ a → ZP_o l D M tgt L (S) I F Post) (kf : ¬ b ≤ a → ZP_o l D M (pc + 3) L (S) I F Post) : ZP_o l D M pc L (.int (nI b) :: .int (nI a) :: S) I F Post := by
  have e := nI_leI hb ha
  refine P_icmp_ge_o hd ht (fun h => kt ?_) (fun h => kf ?_)
  · first | exact e.mp h | exact fun z => h (e.mpr z)
  · first | exact e.mp h | exact fun z => h (e.mpr z) | exact Classical.byContradiction (fun z => h (fun y => z (e.mp y)))
theorem P_icmp_leN_o {a b : Nat} {off : Int} {tgt : Nat} (hd : decode M.2.1 pc = .ok (.if_icmp .le off, 3)) (ht : (pc : Int) + off = (tgt : Int)) (ha : a < 2 ^ 31) (hb : b < 2 ^ 31) (kt : a ≤ b → ZP_o l D M tgt L (S) I F Post) (kf : ¬ a ≤ b → ZP_o l D M (pc + 3) L (S) I F Post) : ZP_o l D M pc L (.int (nI b) :: .int (nI a) :: S) I F Post := by
  have e := nI_leI ha hb
  refine P_icmp_le_o hd ht (fun h => kt ?_) (fun h => kf ?_)
  · first | exact e.mp h | exact fun z => h (e.mpr z)
  · first | exact e.mp h | exact fun z => h (e.mpr z) | exact Classical.byContradiction (fun z => h (fun y => z (e.mp y)))
theorem P_if_eqB_o {b : Bool} {off : Int} {tgt : Nat} (hd : decode M.2.1 pc = .ok (.ifCond .eq off, 3)) (ht : (pc : Int) + off = (tgt : Int)) (kt : b = false → ZP_o l D M tgt L (S) I F Post) (kf : b = true → ZP_o l D M (pc + 3) L (S) I F Post) : ZP_o l D M pc L (.int (zb b) :: S) I F Post := by
  refine P_if_eq_o hd ht (fun h => kt ?_) (fun h => kf ?_)
  · cases b
    · rfl
    · exact absurd h (by decide)
  · cases b
    · exact absurd rfl h
    · rfl
theorem P_if_neB_o {b : Bool} {off : Int} {tgt : Nat} (hd : decode M.2.1 pc = .ok (.ifCond .ne off, 3)) (ht : (pc : Int) + off = (tgt : Int)) (kt : b = true → ZP_o l D M tgt L (S) I F Post) (kf : b = false → ZP_o l D M (pc + 3) L (S) I F Post) : ZP_o l D M pc L (.int (zb b) :: S) I F Post := by
  refine P_if_ne_o hd ht (fun h => kt ?_) (fun h => kf ?_)
  · cases b
    · exact absurd rfl h
    · rfl
  · cases b
    · rfl
    · first | exact absurd h (by decide) | exact absurd (Classical.byContradiction h) (by decide)
theorem P_putr_o {idx a : Nat} (c k : Nat) {n b : Nat} (hd : decode M.2.1 pc = .ok (.putfield idx, 3)) (hf : zFl M.1.cls idx c k) (hs : SH_o[a]? = some (c, n)) (hc : (decide (c < 13) && decide (k < n) && decide (n = zNf c) && (zTy c k).isReference) = true) (hfin : (zTb c k).2.2.2 = false) (hb : b < SH_o.length) (hn : ∀ q : Nat, narrow (zTy c k) (.ref q) = .ref q) (hfit : ∀ q : Nat, fits (zTy c k) (.ref q) = true) (kk : ZP_o l D M (pc + 3) L S I (zuR F a k (some b)) Post) : ZP_o l D M pc L (.ref b :: .ref a :: S) I F Post := by
  obtain ⟨v9, I9, F9, h9, hp9⟩ := kk
  exact ⟨v9, I9, F9, R_putr c k hd hf hs hc (Or.inl hfin) hb hn hfit h9, hp9⟩
theorem P_callV_o {N : ZM} {idx n b k kn : Nat} {As : List Value} {J : AI} {G : AR} {u : Option Int32} (hN : ZR l D N 0 (zent N.2.2.1 (.ref b :: As)) [] I F SH_o u J G SH_o) (hd : decode M.2.1 pc = .ok (.invokevirtual idx, 3)) (ho : zOk N n) (hm : zMl M.1.cls idx N.1) (hi : Cond.instanceMethod N.1 ∈ zT ∧ Cond.selects N.1.cls N.1 N.1 ∈ zT) (hrm : zRm M N) (hret : zRet N.2.2.2.1 u) (hcat : (As.all fun a => a.category == 1) = true) (hlen : As.length = n ∧ n + 1 ≤ N.2.2.1) (hb : SH_o[b]? = some (k, kn)) (hk : k < 13 ∧ zRn k = N.1.cls) (hst : (S.map fun v => v.category).sum ≤ 8) (kk : ZP_o l D M (pc + 3) L (u.toList.map Value.int ++ S) J G Post) : ZP_o l D M pc L (As.reverse ++ .ref b :: S) I F Post := by
  obtain ⟨v, I', F', h, hp⟩ := kk
  exact ⟨v, I', F', R_callV hN hd ho hm hi hrm hret hcat hlen hb hk hst zNew.rf h, hp⟩
theorem P_callS_o {N : ZM} {idx n : Nat} {As : List Value} {J : AI} {G : AR} {u : Option Int32} (hN : ZR l D N 0 (zent N.2.2.1 As) [] I F SH_o u J G SH_o) (hd : decode M.2.1 pc = .ok (.invokestatic idx, 3)) (ho : zOk N n) (hm : zMl M.1.cls idx N.1) (hi : Cond.static N.1 ∈ zT) (hrm : zRm M N) (hret : zRet N.2.2.2.1 u) (hcat : (As.all fun a => a.category == 1) = true) (hlen : As.length = n ∧ n ≤ N.2.2.1) (hst : (S.map fun v => v.category).sum ≤ 8) (kk : ZP_o l D M (pc + 3) L (u.toList.map Value.int ++ S) J G Post) : ZP_o l D M pc L (As.reverse ++ S) I F Post := by
  obtain ⟨v, I', F', h, hp⟩ := kk
  exact ⟨v, I', F', R_callS hN hd ho hm hi hrm hret hcat hlen hst zNew.rf h, hp⟩
theorem P_icmp_eqT_o {x y : Int32} {off : Int} {tgt : Nat} (hd : decode M.2.1 pc = .ok (.if_icmp .eq off, 3)) (ht : (pc : Int) + off = (tgt : Int)) (h : x = y) (k : ZP_o l D M (tgt) L (S) I F Post) : ZP_o l D M (pc) L (.int y :: .int x :: S) I F Post := P_icmp_eq_o hd ht (fun _ => k) (fun z => by first | exact absurd h z | exact absurd z h)
theorem P_icmp_eqF_o {x y : Int32} {off : Int} {tgt : Nat} (hd : decode M.2.1 pc = .ok (.if_icmp .eq off, 3)) (ht : (pc : Int) + off = (tgt : Int)) (h : ¬ x = y) (k : ZP_o l D M (pc + 3) L (S) I F Post) : ZP_o l D M (pc) L (.int y :: .int x :: S) I F Post := P_icmp_eq_o hd ht (fun z => by first | exact absurd h z | exact absurd z h) (fun _ => k)
theorem P_icmp_neT_o {x y : Int32} {off : Int} {tgt : Nat} (hd : decode M.2.1 pc = .ok (.if_icmp .ne off, 3)) (ht : (pc : Int) + off = (tgt : Int)) (h : ¬ x = y) (k : ZP_o l D M (tgt) L (S) I F Post) : ZP_o l D M (pc) L (.int y :: .int x :: S) I F Post := P_icmp_ne_o hd ht (fun _ => k) (fun z => by first | exact absurd h z | exact absurd z h)
theorem P_icmp_neF_o {x y : Int32} {off : Int} {tgt : Nat} (hd : decode M.2.1 pc = .ok (.if_icmp .ne off, 3)) (ht : (pc : Int) + off = (tgt : Int)) (h : x = y) (k : ZP_o l D M (pc + 3) L (S) I F Post) : ZP_o l D M (pc) L (.int y :: .int x :: S) I F Post := P_icmp_ne_o hd ht (fun z => by first | exact absurd h z | exact absurd z h) (fun _ => k)
theorem P_icmp_ltT_o {x y : Int32} {off : Int} {tgt : Nat} (hd : decode M.2.1 pc = .ok (.if_icmp .lt off, 3)) (ht : (pc : Int) + off = (tgt : Int)) (h : x < y) (k : ZP_o l D M (tgt) L (S) I F Post) : ZP_o l D M (pc) L (.int y :: .int x :: S) I F Post := P_icmp_lt_o hd ht (fun _ => k) (fun z => by first | exact absurd h z | exact absurd z h)
theorem P_if_ltF_o {x : Int32} {off : Int} {tgt : Nat} (hd : decode M.2.1 pc = .ok (.ifCond .lt off, 3)) (ht : (pc : Int) + off = (tgt : Int)) (h : ¬ x < 0) (k : ZP_o l D M (pc + 3) L (S) I F Post) : ZP_o l D M (pc) L (.int x :: S) I F Post := P_if_lt_o hd ht (fun z => by first | exact absurd h z | exact absurd z h) (fun _ => k)
theorem P_icmp_geT_o {x y : Int32} {off : Int} {tgt : Nat} (hd : decode M.2.1 pc = .ok (.if_icmp .ge off, 3)) (ht : (pc : Int) + off = (tgt : Int)) (h : y ≤ x) (k : ZP_o l D M (tgt) L (S) I F Post) : ZP_o l D M (pc) L (.int y :: .int x :: S) I F Post := P_icmp_ge_o hd ht (fun _ => k) (fun z => by first | exact absurd h z | exact absurd z h)
theorem P_icmp_geF_o {x y : Int32} {off : Int} {tgt : Nat} (hd : decode M.2.1 pc = .ok (.if_icmp .ge off, 3)) (ht : (pc : Int) + off = (tgt : Int)) (h : ¬ y ≤ x) (k : ZP_o l D M (pc + 3) L (S) I F Post) : ZP_o l D M (pc) L (.int y :: .int x :: S) I F Post := P_icmp_ge_o hd ht (fun z => by first | exact absurd h z | exact absurd z h) (fun _ => k)
theorem P_icmp_leT_o {x y : Int32} {off : Int} {tgt : Nat} (hd : decode M.2.1 pc = .ok (.if_icmp .le off, 3)) (ht : (pc : Int) + off = (tgt : Int)) (h : x ≤ y) (k : ZP_o l D M (tgt) L (S) I F Post) : ZP_o l D M (pc) L (.int y :: .int x :: S) I F Post := P_icmp_le_o hd ht (fun _ => k) (fun z => by first | exact absurd h z | exact absurd z h)
theorem P_icmp_leF_o {x y : Int32} {off : Int} {tgt : Nat} (hd : decode M.2.1 pc = .ok (.if_icmp .le off, 3)) (ht : (pc : Int) + off = (tgt : Int)) (h : ¬ x ≤ y) (k : ZP_o l D M (pc + 3) L (S) I F Post) : ZP_o l D M (pc) L (.int y :: .int x :: S) I F Post := P_icmp_le_o hd ht (fun z => by first | exact absurd h z | exact absurd z h) (fun _ => k)
theorem P_if_neN_o {a : Nat} {off : Int} {tgt : Nat} (hd : decode M.2.1 pc = .ok (.ifCond .ne off, 3)) (ht : (pc : Int) + off = (tgt : Int)) (ha : a < 2 ^ 31) (kt : ¬ a = 0 → ZP_o l D M tgt L S I F Post) (kf : a = 0 → ZP_o l D M (pc + 3) L S I F Post) : ZP_o l D M pc L (.int (nI a) :: S) I F Post := by
  have e := nI_eq ha (show 0 < 2 ^ 31 by decide)
  exact P_if_ne_o hd ht (fun h => kt (fun z => h (e.mpr z))) (fun h => kf (by first | exact e.mp h | exact e.mp (Classical.byContradiction h)))
end ZO1
theorem shr_41_o (c : Nat) (h : c < 8) : SH_o[41 + c]? = some (15, 8) := by
  have h8 : c = 0 ∨ c = 1 ∨ c = 2 ∨ c = 3 ∨ c = 4 ∨ c = 5 ∨ c = 6 ∨ c = 7 := by omega
  rcases h8 with rfl | rfl | rfl | rfl | rfl | rfl | rfl | rfl <;> rfl
theorem Fr_40_o {t : Nat} (c : Nat) (h : c < 8) : zF_o t 40 c = some (41 + c) := by
  have h8 : c = 0 ∨ c = 1 ∨ c = 2 ∨ c = 3 ∨ c = 4 ∨ c = 5 ∨ c = 6 ∨ c = 7 := by omega
  rcases h8 with rfl | rfl | rfl | rfl | rfl | rfl | rfl | rfl <;> rfl
theorem shr_50_o (c : Nat) (h : c < 8) : SH_o[50 + c]? = some (15, 8) := by
  have h8 : c = 0 ∨ c = 1 ∨ c = 2 ∨ c = 3 ∨ c = 4 ∨ c = 5 ∨ c = 6 ∨ c = 7 := by omega
  rcases h8 with rfl | rfl | rfl | rfl | rfl | rfl | rfl | rfl <;> rfl
theorem Fr_49_o {t : Nat} (c : Nat) (h : c < 8) : zF_o t 49 c = some (50 + c) := by
  have h8 : c = 0 ∨ c = 1 ∨ c = 2 ∨ c = 3 ∨ c = 4 ∨ c = 5 ∨ c = 6 ∨ c = 7 := by omega
  rcases h8 with rfl | rfl | rfl | rfl | rfl | rfl | rfl | rfl <;> rfl
