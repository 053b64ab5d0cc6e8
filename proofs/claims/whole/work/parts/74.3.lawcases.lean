set_option maxRecDepth 20000 in
theorem lc_16 {fm : Value} {n : Nat} {xs : Nat → Int32} {l : Launch} {D : va_G} {Post : Option Int32 → AI → AR → Prop} {i t : Nat} {s : Nat → Nat → Nat} {I : AI} (hn : n ≤ 2048) (hi : i + 4 ≤ n) (hV : LInv t s I) (kk : ∀ (t : Nat) (s : Nat → Nat → Nat) (I : AI), LInv t s I → ZC (YL fm n xs) l D zm_L_law SH 955 (zLL i) [] I (zF t) SH Post) : ZC (YL fm n xs) l D zm_L_law SH 580 (zLL i) [] I (zF t) SH Post := by
  obtain ⟨ht, hC, hR, hA⟩ := hV
  refine C_aload_n (pc := 580) dL_law_580 rfl ?_
  obtain ⟨_, _, _, k1, rfl, rfl, rfl⟩ := ZP.c (Y := YL fm n xs) (s_lies (l := l) (D := D) ht hC hR )
  refine C_callV (pc := 581) (S := []) (As := []) (zYo_L fm n xs) k1 dL_law_581 ok_X11_lies ml_L_81 iv_X11_lies ⟨by decide, by decide⟩ (zret_i _) rfl ⟨rfl, by decide⟩ sh_0 ⟨by decide, rfl⟩ (Nat.le_of_ble_eq_true rfl) zNew.rf ?_
  have hA1 := hA
  refine C_aload_n (pc := 584) dL_law_584 rfl ?_
  obtain ⟨_, _, _, k2, rfl, rfl, rfl⟩ := ZP.c (Y := YL fm n xs) (c_lies (l := l) (D := D) (tw := t) hA1.1 hR.1.1 hR.1.2.2.1.2.1 )
  refine C_callV (pc := 585) (S := [_]) (As := []) (zYo_L fm n xs) k2 dL_law_585 ok_X12_lies ml_L_84 iv_X12_lies ⟨by decide, by decide⟩ (zret_i _) rfl ⟨rfl, by decide⟩ sh_109 ⟨by decide, rfl⟩ (Nat.le_of_ble_eq_true rfl) zNew.rf ?_
  refine C_icmp_eqT (pc := 588) (tgt := 955) dL_law_588 (by decide) rfl ?_
  exact kk t s I ⟨ht, hC, hR, hA⟩
set_option maxRecDepth 20000 in
theorem lc_17 {fm : Value} {n : Nat} {xs : Nat → Int32} {l : Launch} {D : va_G} {Post : Option Int32 → AI → AR → Prop} {i t : Nat} {s : Nat → Nat → Nat} {I : AI} (hn : n ≤ 2048) (hi : i + 4 ≤ n) (hV : LInv t s I) (kk : ∀ (t : Nat) (s : Nat → Nat → Nat) (I : AI), LInv t s I → ZC (YL fm n xs) l D zm_L_law SH 955 (zLL i) [] I (zF t) SH Post) : ZC (YL fm n xs) l D zm_L_law SH 593 (zLL i) [] I (zF t) SH Post := by
  obtain ⟨ht, hC, hR, hA⟩ := hV
  refine C_aload_n (pc := 593) dL_law_593 rfl ?_
  refine C_aload_n (pc := 594) dL_law_594 rfl ?_
  refine C_iload_n (pc := 595) dL_law_595 rfl ?_
  refine C_iconst (pc := 596) (x := nI 1) dL_law_596 (by decide) ?_
  refine C_iadd (pc := 597) dL_law_597 ?_
  refine C_sld (pc := 598) (i + 1) dL_law_598 (nI_add i 1) (by omega) (by omega) ?_
  obtain ⟨_, J, _, k1, rfl, rfl, hJ⟩ := ZP.c (Y := YL fm n xs) (s_lure (l := l) (D := D) ht hC hR (x := xs (i + 1)))
  refine C_callV (pc := 599) (S := []) (As := [_]) (zYo_L fm n xs) k1 dL_law_599 ok_X11_lure ml_L_85 iv_X11_lure ⟨by decide, by decide⟩ (zret_i _) rfl ⟨rfl, by decide⟩ sh_0 ⟨by decide, rfl⟩ (Nat.le_of_ble_eq_true rfl) zNew.rf ?_
  have hC1 : CR t s J := hC.sc hJ ht
  have hA1 : RefA s J := (hJ.hg ht).A hA
  refine C_aload_n (pc := 602) dL_law_602 rfl ?_
  refine C_aload_n (pc := 603) dL_law_603 rfl ?_
  refine C_iload_n (pc := 604) dL_law_604 rfl ?_
  refine C_iconst (pc := 605) (x := nI 1) dL_law_605 (by decide) ?_
  refine C_iadd (pc := 606) dL_law_606 ?_
  refine C_sld (pc := 607) (i + 1) dL_law_607 (nI_add i 1) (by omega) (by omega) ?_
  obtain ⟨_, K, _, k2, rfl, rfl, g, hK⟩ := ZP.c (Y := YL fm n xs) (c_lure (l := l) (D := D) (tw := t) hA1 hR.1.1 hR.1.2.1 hR.1.2.2.1.2 hR.1.2.2.1.1 (x := xs (i + 1)))
  refine C_callV (pc := 608) (S := [_]) (As := [_]) (zYo_L fm n xs) k2 dL_law_608 ok_X12_lure ml_L_88 iv_X12_lure ⟨by decide, by decide⟩ (zret_i _) rfl ⟨rfl, by decide⟩ sh_109 ⟨by decide, rfl⟩ (Nat.le_of_ble_eq_true rfl) zNew.rf ?_
  refine C_icmp_eqT (pc := 611) (tgt := 955) dL_law_611 (by decide) rfl ?_
  obtain ⟨hA2, hlo⟩ := hK.A hA1
  exact kk t (sT s g) K ⟨ht, (hC1.frm hK.frm ht).ag hR hlo.ag, hR.ag hlo.ag, hA2⟩
set_option maxRecDepth 20000 in
theorem lc_18 {fm : Value} {n : Nat} {xs : Nat → Int32} {l : Launch} {D : va_G} {Post : Option Int32 → AI → AR → Prop} {i t : Nat} {s : Nat → Nat → Nat} {I : AI} (hn : n ≤ 2048) (hi : i + 4 ≤ n) (hV : LInv t s I) (kk : ∀ (t : Nat) (s : Nat → Nat → Nat) (I : AI), LInv t s I → ZC (YL fm n xs) l D zm_L_law SH 955 (zLL i) [] I (zF t) SH Post) : ZC (YL fm n xs) l D zm_L_law SH 616 (zLL i) [] I (zF t) SH Post := by
  obtain ⟨ht, hC, hR, hA⟩ := hV
  refine C_aload_n (pc := 616) dL_law_616 rfl ?_
  refine C_aload_n (pc := 617) dL_law_617 rfl ?_
  refine C_iload_n (pc := 618) dL_law_618 rfl ?_
  refine C_iconst (pc := 619) (x := nI 1) dL_law_619 (by decide) ?_
  refine C_iadd (pc := 620) dL_law_620 ?_
  refine C_sld (pc := 621) (i + 1) dL_law_621 (nI_add i 1) (by omega) (by omega) ?_
  obtain ⟨_, J, _, k1, rfl, rfl, hJ⟩ := ZP.c (Y := YL fm n xs) (s_mend (l := l) (D := D) ht hC hR (x := xs (i + 1)))
  refine C_callV (pc := 622) (S := []) (As := [_]) (zYo_L fm n xs) k1 dL_law_622 ok_X11_mend ml_L_89 iv_X11_mend ⟨by decide, by decide⟩ (zret_i _) rfl ⟨rfl, by decide⟩ sh_0 ⟨by decide, rfl⟩ (Nat.le_of_ble_eq_true rfl) zNew.rf ?_
  have hC1 : CR t s J := hC.sc hJ ht
  have hA1 : RefA s J := (hJ.hg ht).A hA
  refine C_aload_n (pc := 625) dL_law_625 rfl ?_
  refine C_aload_n (pc := 626) dL_law_626 rfl ?_
  refine C_iload_n (pc := 627) dL_law_627 rfl ?_
  refine C_iconst (pc := 628) (x := nI 1) dL_law_628 (by decide) ?_
  refine C_iadd (pc := 629) dL_law_629 ?_
  refine C_sld (pc := 630) (i + 1) dL_law_630 (nI_add i 1) (by omega) (by omega) ?_
  obtain ⟨_, K, _, k2, rfl, rfl, g, hK⟩ := ZP.c (Y := YL fm n xs) (c_mend (l := l) (D := D) (tw := t) hA1 hR.1.1 hR.1.2.1 hR.1.2.2.1.2 hR.1.2.2.1.1 (x := xs (i + 1)))
  refine C_callV (pc := 631) (S := [_]) (As := [_]) (zYo_L fm n xs) k2 dL_law_631 ok_X12_mend ml_L_92 iv_X12_mend ⟨by decide, by decide⟩ (zret_i _) rfl ⟨rfl, by decide⟩ sh_109 ⟨by decide, rfl⟩ (Nat.le_of_ble_eq_true rfl) zNew.rf ?_
  refine C_icmp_eqT (pc := 634) (tgt := 955) dL_law_634 (by decide) rfl ?_
  obtain ⟨hA2, hlo⟩ := hK.A hA1
  exact kk t (sT s g) K ⟨ht, (hC1.frm hK.frm ht).ag hR hlo.ag, hR.ag hlo.ag, hA2⟩
set_option maxRecDepth 20000 in
theorem lc_19 {fm : Value} {n : Nat} {xs : Nat → Int32} {l : Launch} {D : va_G} {Post : Option Int32 → AI → AR → Prop} {i t : Nat} {s : Nat → Nat → Nat} {I : AI} (hn : n ≤ 2048) (hi : i + 4 ≤ n) (hV : LInv t s I) (kk : ∀ (t : Nat) (s : Nat → Nat → Nat) (I : AI), LInv t s I → ZC (YL fm n xs) l D zm_L_law SH 955 (zLL i) [] I (zF t) SH Post) : ZC (YL fm n xs) l D zm_L_law SH 639 (zLL i) [] I (zF t) SH Post := by
  obtain ⟨ht, hC, hR, hA⟩ := hV
  refine C_aload_n (pc := 639) dL_law_639 rfl ?_
  refine C_aload_n (pc := 640) dL_law_640 rfl ?_
  refine C_iload_n (pc := 641) dL_law_641 rfl ?_
  refine C_iconst (pc := 642) (x := nI 1) dL_law_642 (by decide) ?_
  refine C_iadd (pc := 643) dL_law_643 ?_
  refine C_sld (pc := 644) (i + 1) dL_law_644 (nI_add i 1) (by omega) (by omega) ?_
  refine C_aload_n (pc := 645) dL_law_645 rfl ?_
  refine C_iload_n (pc := 646) dL_law_646 rfl ?_
  refine C_iconst (pc := 647) (x := nI 2) dL_law_647 (by decide) ?_
  refine C_iadd (pc := 648) dL_law_648 ?_
  refine C_sld (pc := 649) (i + 2) dL_law_649 (nI_add i 2) (by omega) (by omega) ?_
  obtain ⟨_, J, _, k1, rfl, rfl, hJ⟩ := ZP.c (Y := YL fm n xs) (s_best (l := l) (D := D) ht hC hR (x := xs (i + 1)) (y := xs (i + 2)))
  refine C_callV (pc := 650) (S := []) (As := [_, _]) (zYo_L fm n xs) k1 dL_law_650 ok_X11_best ml_L_93 iv_X11_best ⟨by decide, by decide⟩ (zret_i _) rfl ⟨rfl, by decide⟩ sh_0 ⟨by decide, rfl⟩ (Nat.le_of_ble_eq_true rfl) zNew.rf ?_
  have hC1 : CR t s J := hC.sc hJ ht
  have hA1 : RefA s J := (hJ.hg ht).A hA
  refine C_aload_n (pc := 653) dL_law_653 rfl ?_
  refine C_aload_n (pc := 654) dL_law_654 rfl ?_
  refine C_iload_n (pc := 655) dL_law_655 rfl ?_
  refine C_iconst (pc := 656) (x := nI 1) dL_law_656 (by decide) ?_
  refine C_iadd (pc := 657) dL_law_657 ?_
  refine C_sld (pc := 658) (i + 1) dL_law_658 (nI_add i 1) (by omega) (by omega) ?_
  refine C_aload_n (pc := 659) dL_law_659 rfl ?_
  refine C_iload_n (pc := 660) dL_law_660 rfl ?_
  refine C_iconst (pc := 661) (x := nI 2) dL_law_661 (by decide) ?_
  refine C_iadd (pc := 662) dL_law_662 ?_
  refine C_sld (pc := 663) (i + 2) dL_law_663 (nI_add i 2) (by omega) (by omega) ?_
  obtain ⟨_, K, _, k2, rfl, rfl, hK⟩ := ZP.c (Y := YL fm n xs) (c_best (l := l) (D := D) (tw := t) hA1.1 hR.1.1 hR.1.2.1 hR.1.2.2.1.2 (x := xs (i + 1)) (y := xs (i + 2)))
  refine C_callV (pc := 664) (S := [_]) (As := [_, _]) (zYo_L fm n xs) k2 dL_law_664 ok_X12_best ml_L_96 iv_X12_best ⟨by decide, by decide⟩ (zret_i _) rfl ⟨rfl, by decide⟩ sh_109 ⟨by decide, rfl⟩ (Nat.le_of_ble_eq_true rfl) zNew.rf ?_
  refine C_icmp_eqT (pc := 667) (tgt := 955) dL_law_667 (by decide) rfl ?_
  exact kk t s K ⟨ht, hC1.frm hK.frm ht, hR, hK.A hA1⟩
set_option maxRecDepth 20000 in
theorem lc_20 {fm : Value} {n : Nat} {xs : Nat → Int32} {l : Launch} {D : va_G} {Post : Option Int32 → AI → AR → Prop} {i t : Nat} {s : Nat → Nat → Nat} {I : AI} (hn : n ≤ 2048) (hi : i + 4 ≤ n) (hV : LInv t s I) (kk : ∀ (t : Nat) (s : Nat → Nat → Nat) (I : AI), LInv t s I → ZC (YL fm n xs) l D zm_L_law SH 955 (zLL i) [] I (zF t) SH Post) : ZC (YL fm n xs) l D zm_L_law SH 672 (zLL i) [] I (zF t) SH Post := by
  obtain ⟨ht, hC, hR, hA⟩ := hV
  refine C_aload_n (pc := 672) dL_law_672 rfl ?_
  refine C_aload_n (pc := 673) dL_law_673 rfl ?_
  refine C_iload_n (pc := 674) dL_law_674 rfl ?_
  refine C_iconst (pc := 675) (x := nI 1) dL_law_675 (by decide) ?_
  refine C_iadd (pc := 676) dL_law_676 ?_
  refine C_sld (pc := 677) (i + 1) dL_law_677 (nI_add i 1) (by omega) (by omega) ?_
  obtain ⟨_, J, _, k1, rfl, rfl, hJ⟩ := ZP.c (Y := YL fm n xs) (s_watch (l := l) (D := D) ht hC hR (x := xs (i + 1)))
  refine C_callV (pc := 678) (S := []) (As := [_]) (zYo_L fm n xs) k1 dL_law_678 ok_X11_watch ml_L_97 iv_X11_watch ⟨by decide, by decide⟩ (zret_i _) rfl ⟨rfl, by decide⟩ sh_0 ⟨by decide, rfl⟩ (Nat.le_of_ble_eq_true rfl) zNew.rf ?_
  have hC1 : CR t s J := hC.sc hJ ht
  have hA1 : RefA s J := (hJ.hg ht).A hA
  refine C_aload_n (pc := 681) dL_law_681 rfl ?_
  refine C_aload_n (pc := 682) dL_law_682 rfl ?_
  refine C_iload_n (pc := 683) dL_law_683 rfl ?_
  refine C_iconst (pc := 684) (x := nI 1) dL_law_684 (by decide) ?_
  refine C_iadd (pc := 685) dL_law_685 ?_
  refine C_sld (pc := 686) (i + 1) dL_law_686 (nI_add i 1) (by omega) (by omega) ?_
  obtain ⟨_, K, _, k2, rfl, rfl, hK⟩ := ZP.c (Y := YL fm n xs) (c_watch (l := l) (D := D) (tw := t) hA1.1 hR.1.1 hR.1.2.1 hR.1.2.2.1.2 hR.1.2.2.2.2.2 (x := xs (i + 1)))
  refine C_callV (pc := 687) (S := [_]) (As := [_]) (zYo_L fm n xs) k2 dL_law_687 ok_X12_watch ml_L_100 iv_X12_watch ⟨by decide, by decide⟩ (zret_i _) rfl ⟨rfl, by decide⟩ sh_109 ⟨by decide, rfl⟩ (Nat.le_of_ble_eq_true rfl) zNew.rf ?_
  refine C_icmp_eqT (pc := 690) (tgt := 955) dL_law_690 (by decide) rfl ?_
  exact kk t s K ⟨ht, hC1.frm hK.frm ht, hR, hK.A hA1⟩
set_option maxRecDepth 20000 in
theorem lc_21 {fm : Value} {n : Nat} {xs : Nat → Int32} {l : Launch} {D : va_G} {Post : Option Int32 → AI → AR → Prop} {i t : Nat} {s : Nat → Nat → Nat} {I : AI} (hn : n ≤ 2048) (hi : i + 4 ≤ n) (hV : LInv t s I) (kk : ∀ (t : Nat) (s : Nat → Nat → Nat) (I : AI), LInv t s I → ZC (YL fm n xs) l D zm_L_law SH 955 (zLL i) [] I (zF t) SH Post) : ZC (YL fm n xs) l D zm_L_law SH 695 (zLL i) [] I (zF t) SH Post := by
  obtain ⟨ht, hC, hR, hA⟩ := hV
  refine C_aload_n (pc := 695) dL_law_695 rfl ?_
  refine C_aload_n (pc := 696) dL_law_696 rfl ?_
  refine C_iload_n (pc := 697) dL_law_697 rfl ?_
  refine C_iconst (pc := 698) (x := nI 1) dL_law_698 (by decide) ?_
  refine C_iadd (pc := 699) dL_law_699 ?_
  refine C_sld (pc := 700) (i + 1) dL_law_700 (nI_add i 1) (by omega) (by omega) ?_
  obtain ⟨_, J, _, k1, rfl, rfl, hJ⟩ := ZP.c (Y := YL fm n xs) (s_missed (l := l) (D := D) ht hC hR (x := xs (i + 1)))
  refine C_callV (pc := 701) (S := []) (As := [_]) (zYo_L fm n xs) k1 dL_law_701 ok_X11_missed ml_L_101 iv_X11_missed ⟨by decide, by decide⟩ (zret_i _) rfl ⟨rfl, by decide⟩ sh_0 ⟨by decide, rfl⟩ (Nat.le_of_ble_eq_true rfl) zNew.rf ?_
  have hC1 : CR t s J := hC.sc hJ ht
  have hA1 : RefA s J := (hJ.hg ht).A hA
  refine C_aload_n (pc := 704) dL_law_704 rfl ?_
  refine C_aload_n (pc := 705) dL_law_705 rfl ?_
  refine C_iload_n (pc := 706) dL_law_706 rfl ?_
  refine C_iconst (pc := 707) (x := nI 1) dL_law_707 (by decide) ?_
  refine C_iadd (pc := 708) dL_law_708 ?_
  refine C_sld (pc := 709) (i + 1) dL_law_709 (nI_add i 1) (by omega) (by omega) ?_
  obtain ⟨_, K, _, k2, rfl, rfl, hA2, hF⟩ := ZP.c (Y := YL fm n xs) (c_missed (l := l) (D := D) (tw := t) hA1 hR.1.1 hR.1.2.1 hR.1.2.2.2.1 hR.1.2.2.2.2.1 (x := xs (i + 1)))
  refine C_callV (pc := 710) (S := [_]) (As := [_]) (zYo_L fm n xs) k2 dL_law_710 ok_X12_missed ml_L_104 iv_X12_missed ⟨by decide, by decide⟩ (zret_i _) rfl ⟨rfl, by decide⟩ sh_109 ⟨by decide, rfl⟩ (Nat.le_of_ble_eq_true rfl) zNew.rf ?_
  refine C_icmp_eqT (pc := 713) (tgt := 955) dL_law_713 (by decide) rfl ?_
  exact kk t s K ⟨ht, hC1.frm hF ht, hR, hA2⟩
set_option maxRecDepth 20000 in
theorem lc_22 {fm : Value} {n : Nat} {xs : Nat → Int32} {l : Launch} {D : va_G} {Post : Option Int32 → AI → AR → Prop} {i t : Nat} {s : Nat → Nat → Nat} {I : AI} (hn : n ≤ 2048) (hi : i + 4 ≤ n) (hV : LInv t s I) (kk : ∀ (t : Nat) (s : Nat → Nat → Nat) (I : AI), LInv t s I → ZC (YL fm n xs) l D zm_L_law SH 955 (zLL i) [] I (zF t) SH Post) : ZC (YL fm n xs) l D zm_L_law SH 718 (zLL i) [] I (zF t) SH Post := by
  obtain ⟨ht, hC, hR, hA⟩ := hV
  refine C_aload_n (pc := 718) dL_law_718 rfl ?_
  refine C_aload_n (pc := 719) dL_law_719 rfl ?_
  refine C_iload_n (pc := 720) dL_law_720 rfl ?_
  refine C_iconst (pc := 721) (x := nI 1) dL_law_721 (by decide) ?_
  refine C_iadd (pc := 722) dL_law_722 ?_
  refine C_sld (pc := 723) (i + 1) dL_law_723 (nI_add i 1) (by omega) (by omega) ?_
  refine C_aload_n (pc := 724) dL_law_724 rfl ?_
  refine C_iload_n (pc := 725) dL_law_725 rfl ?_
  refine C_iconst (pc := 726) (x := nI 2) dL_law_726 (by decide) ?_
  refine C_iadd (pc := 727) dL_law_727 ?_
  refine C_sld (pc := 728) (i + 2) dL_law_728 (nI_add i 2) (by omega) (by omega) ?_
  refine C_aload_n (pc := 729) dL_law_729 rfl ?_
  refine C_iload_n (pc := 730) dL_law_730 rfl ?_
  refine C_iconst (pc := 731) (x := nI 3) dL_law_731 (by decide) ?_
  refine C_iadd (pc := 732) dL_law_732 ?_
  refine C_sld (pc := 733) (i + 3) dL_law_733 (nI_add i 3) (by omega) (by omega) ?_
  obtain ⟨_, J, _, k1, rfl, rfl, hC1, hg⟩ := ZP.c (Y := YL fm n xs) (s_seen (l := l) (D := D) ht hC hR (x := xs (i + 1)) (y := xs (i + 2)) (z := xs (i + 3)))
  refine C_callV (pc := 734) (S := []) (As := [_, _, _]) (zYo_L fm n xs) k1 dL_law_734 ok_X11_seen ml_L_105 iv_X11_seen ⟨by decide, by decide⟩ (zret_i _) rfl ⟨rfl, by decide⟩ sh_0 ⟨by decide, rfl⟩ (Nat.le_of_ble_eq_true rfl) zNew.rf ?_
  have hA1 : RefA s J := hg.A hA
  refine C_aload_n (pc := 737) dL_law_737 rfl ?_
  refine C_aload_n (pc := 738) dL_law_738 rfl ?_
  refine C_iload_n (pc := 739) dL_law_739 rfl ?_
  refine C_iconst (pc := 740) (x := nI 1) dL_law_740 (by decide) ?_
  refine C_iadd (pc := 741) dL_law_741 ?_
  refine C_sld (pc := 742) (i + 1) dL_law_742 (nI_add i 1) (by omega) (by omega) ?_
  refine C_aload_n (pc := 743) dL_law_743 rfl ?_
  refine C_iload_n (pc := 744) dL_law_744 rfl ?_
  refine C_iconst (pc := 745) (x := nI 2) dL_law_745 (by decide) ?_
  refine C_iadd (pc := 746) dL_law_746 ?_
  refine C_sld (pc := 747) (i + 2) dL_law_747 (nI_add i 2) (by omega) (by omega) ?_
  refine C_aload_n (pc := 748) dL_law_748 rfl ?_
  refine C_iload_n (pc := 749) dL_law_749 rfl ?_
  refine C_iconst (pc := 750) (x := nI 3) dL_law_750 (by decide) ?_
  refine C_iadd (pc := 751) dL_law_751 ?_
  refine C_sld (pc := 752) (i + 3) dL_law_752 (nI_add i 3) (by omega) (by omega) ?_
  obtain ⟨_, K, _, k2, rfl, rfl, hA2, hF⟩ := ZP.c (Y := YL fm n xs) (c_seen (l := l) (D := D) (tw := t) hA1 hR.1.1 hR.1.2.1 hR.2.1.2.2.1 (x := xs (i + 1)) (y := xs (i + 2)) (z := xs (i + 3)))
  refine C_callV (pc := 753) (S := [_]) (As := [_, _, _]) (zYo_L fm n xs) k2 dL_law_753 ok_X12_seen ml_L_108 iv_X12_seen ⟨by decide, by decide⟩ (zret_i _) rfl ⟨rfl, by decide⟩ sh_109 ⟨by decide, rfl⟩ (Nat.le_of_ble_eq_true rfl) zNew.rf ?_
  refine C_icmp_eqT (pc := 756) (tgt := 955) dL_law_756 (by decide) rfl ?_
  exact kk t (nSeen s (xs (i + 1)) (xs (i + 2)) (xs (i + 3))) K ⟨ht, hC1.frm hF ht, (hR.toSeen _ _ _), hA2⟩
set_option maxRecDepth 20000 in
theorem lc_23 {fm : Value} {n : Nat} {xs : Nat → Int32} {l : Launch} {D : va_G} {Post : Option Int32 → AI → AR → Prop} {i t : Nat} {s : Nat → Nat → Nat} {I : AI} (hn : n ≤ 2048) (hi : i + 4 ≤ n) (hV : LInv t s I) (kk : ∀ (t : Nat) (s : Nat → Nat → Nat) (I : AI), LInv t s I → ZC (YL fm n xs) l D zm_L_law SH 955 (zLL i) [] I (zF t) SH Post) : ZC (YL fm n xs) l D zm_L_law SH 761 (zLL i) [] I (zF t) SH Post := by
  obtain ⟨ht, hC, hR, hA⟩ := hV
  refine C_aload_n (pc := 761) dL_law_761 rfl ?_
  obtain ⟨_, J, _, k1, rfl, rfl, hC1, hg⟩ := ZP.c (Y := YL fm n xs) (s_forget (l := l) (D := D) ht hC hR )
  refine C_callV (pc := 762) (S := []) (As := []) (zYo_L fm n xs) k1 dL_law_762 ok_X11_forget ml_L_109 iv_X11_forget ⟨by decide, by decide⟩ (zret_i _) rfl ⟨rfl, by decide⟩ sh_0 ⟨by decide, rfl⟩ (Nat.le_of_ble_eq_true rfl) zNew.rf ?_
  have hA1 : RefA s J := hg.A hA
  refine C_aload_n (pc := 765) dL_law_765 rfl ?_
  obtain ⟨_, K, _, k2, rfl, rfl, hA2, hF⟩ := ZP.c (Y := YL fm n xs) (c_forget (l := l) (D := D) (tw := t) hA1 )
  refine C_callV (pc := 766) (S := [_]) (As := []) (zYo_L fm n xs) k2 dL_law_766 ok_X12_forget ml_L_112 iv_X12_forget ⟨by decide, by decide⟩ (zret_i _) rfl ⟨rfl, by decide⟩ sh_109 ⟨by decide, rfl⟩ (Nat.le_of_ble_eq_true rfl) zNew.rf ?_
  refine C_icmp_eqT (pc := 769) (tgt := 955) dL_law_769 (by decide) rfl ?_
  exact kk t (zuN s 109 33 0) K ⟨ht, hC1.frm hF ht, hR.forget, hA2⟩
