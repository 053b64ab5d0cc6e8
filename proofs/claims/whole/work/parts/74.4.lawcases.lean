set_option maxRecDepth 20000 in
theorem lc_24 {fm : Value} {n : Nat} {xs : Nat → Int32} {l : Launch} {D : va_G} {Post : Option Int32 → AI → AR → Prop} {i t : Nat} {s : Nat → Nat → Nat} {I : AI} (hn : n ≤ 2048) (hi : i + 4 ≤ n) (hV : LInv t s I) (kk : ∀ (t : Nat) (s : Nat → Nat → Nat) (I : AI), LInv t s I → ZC (YL fm n xs) l D zm_L_law SH 955 (zLL i) [] I (zF t) SH Post) : ZC (YL fm n xs) l D zm_L_law SH 774 (zLL i) [] I (zF t) SH Post := by
  obtain ⟨ht, hC, hR, hA⟩ := hV
  refine C_aload_n (pc := 774) dL_law_774 rfl ?_
  refine C_aload_n (pc := 775) dL_law_775 rfl ?_
  refine C_iload_n (pc := 776) dL_law_776 rfl ?_
  refine C_iconst (pc := 777) (x := nI 1) dL_law_777 (by decide) ?_
  refine C_iadd (pc := 778) dL_law_778 ?_
  refine C_sld (pc := 779) (i + 1) dL_law_779 (nI_add i 1) (by omega) (by omega) ?_
  obtain ⟨_, J, _, k1, rfl, rfl, hJ⟩ := ZP.c (Y := YL fm n xs) (s_kinds (l := l) (D := D) ht hC hR (x := xs (i + 1)))
  refine C_callV (pc := 780) (S := []) (As := [_]) (zYo_L fm n xs) k1 dL_law_780 ok_X11_kinds ml_L_113 iv_X11_kinds ⟨by decide, by decide⟩ (zret_i _) rfl ⟨rfl, by decide⟩ sh_0 ⟨by decide, rfl⟩ (Nat.le_of_ble_eq_true rfl) zNew.rf ?_
  have hC1 : CR t s J := hC.sc hJ ht
  have hA1 : RefA s J := (hJ.hg ht).A hA
  refine C_aload_n (pc := 783) dL_law_783 rfl ?_
  refine C_aload_n (pc := 784) dL_law_784 rfl ?_
  refine C_iload_n (pc := 785) dL_law_785 rfl ?_
  refine C_iconst (pc := 786) (x := nI 1) dL_law_786 (by decide) ?_
  refine C_iadd (pc := 787) dL_law_787 ?_
  refine C_sld (pc := 788) (i + 1) dL_law_788 (nI_add i 1) (by omega) (by omega) ?_
  obtain ⟨_, K, _, k2, rfl, rfl, hK⟩ := ZP.c (Y := YL fm n xs) (c_kinds (l := l) (D := D) (tw := t) hA1 hR.1.1 hR.1.2.1 hR.1.2.2.1.2 hR.2.1.2.2.1 hR.2.2.2.1 (x := xs (i + 1)))
  refine C_callV (pc := 789) (S := [_]) (As := [_]) (zYo_L fm n xs) k2 dL_law_789 ok_X12_kinds ml_L_116 iv_X12_kinds ⟨by decide, by decide⟩ (zret_i _) rfl ⟨rfl, by decide⟩ sh_109 ⟨by decide, rfl⟩ (Nat.le_of_ble_eq_true rfl) zNew.rf ?_
  refine C_icmp_eqT (pc := 792) (tgt := 955) dL_law_792 (by decide) rfl ?_
  exact kk t s K ⟨ht, hC1.frm hK.frm ht, hR, hK.A hA1⟩
set_option maxRecDepth 20000 in
theorem lc_25 {fm : Value} {n : Nat} {xs : Nat → Int32} {l : Launch} {D : va_G} {Post : Option Int32 → AI → AR → Prop} {i t : Nat} {s : Nat → Nat → Nat} {I : AI} (hn : n ≤ 2048) (hi : i + 4 ≤ n) (hV : LInv t s I) (kk : ∀ (t : Nat) (s : Nat → Nat → Nat) (I : AI), LInv t s I → ZC (YL fm n xs) l D zm_L_law SH 955 (zLL i) [] I (zF t) SH Post) : ZC (YL fm n xs) l D zm_L_law SH 797 (zLL i) [] I (zF t) SH Post := by
  obtain ⟨ht, hC, hR, hA⟩ := hV
  refine C_aload_n (pc := 797) dL_law_797 rfl ?_
  refine C_aload_n (pc := 798) dL_law_798 rfl ?_
  refine C_iload_n (pc := 799) dL_law_799 rfl ?_
  refine C_iconst (pc := 800) (x := nI 1) dL_law_800 (by decide) ?_
  refine C_iadd (pc := 801) dL_law_801 ?_
  refine C_sld (pc := 802) (i + 1) dL_law_802 (nI_add i 1) (by omega) (by omega) ?_
  refine C_aload_n (pc := 803) dL_law_803 rfl ?_
  refine C_iload_n (pc := 804) dL_law_804 rfl ?_
  refine C_iconst (pc := 805) (x := nI 2) dL_law_805 (by decide) ?_
  refine C_iadd (pc := 806) dL_law_806 ?_
  refine C_sld (pc := 807) (i + 2) dL_law_807 (nI_add i 2) (by omega) (by omega) ?_
  obtain ⟨_, J, _, k1, rfl, rfl, hJ⟩ := ZP.c (Y := YL fm n xs) (s_paid (l := l) (D := D) ht hC hR (x := xs (i + 1)) (y := xs (i + 2)))
  refine C_callV (pc := 808) (S := []) (As := [_, _]) (zYo_L fm n xs) k1 dL_law_808 ok_X11_paid ml_L_117 iv_X11_paid ⟨by decide, by decide⟩ (zret_i _) rfl ⟨rfl, by decide⟩ sh_0 ⟨by decide, rfl⟩ (Nat.le_of_ble_eq_true rfl) zNew.rf ?_
  have hC1 : CR t s J := hC.sc hJ ht
  have hA1 : RefA s J := (hJ.hg ht).A hA
  refine C_aload_n (pc := 811) dL_law_811 rfl ?_
  refine C_aload_n (pc := 812) dL_law_812 rfl ?_
  refine C_iload_n (pc := 813) dL_law_813 rfl ?_
  refine C_iconst (pc := 814) (x := nI 1) dL_law_814 (by decide) ?_
  refine C_iadd (pc := 815) dL_law_815 ?_
  refine C_sld (pc := 816) (i + 1) dL_law_816 (nI_add i 1) (by omega) (by omega) ?_
  refine C_aload_n (pc := 817) dL_law_817 rfl ?_
  refine C_iload_n (pc := 818) dL_law_818 rfl ?_
  refine C_iconst (pc := 819) (x := nI 2) dL_law_819 (by decide) ?_
  refine C_iadd (pc := 820) dL_law_820 ?_
  refine C_sld (pc := 821) (i + 2) dL_law_821 (nI_add i 2) (by omega) (by omega) ?_
  obtain ⟨_, K, _, k2, rfl, rfl, hK⟩ := ZP.c (Y := YL fm n xs) (c_paid (l := l) (D := D) (tw := t) hA1.1 hR.1.1 hR.1.2.1 hR.1.2.2.1.2 (x := xs (i + 1)) (y := xs (i + 2)))
  refine C_callV (pc := 822) (S := [_]) (As := [_, _]) (zYo_L fm n xs) k2 dL_law_822 ok_X12_paid ml_L_120 iv_X12_paid ⟨by decide, by decide⟩ (zret_i _) rfl ⟨rfl, by decide⟩ sh_109 ⟨by decide, rfl⟩ (Nat.le_of_ble_eq_true rfl) zNew.rf ?_
  refine C_icmp_eqT (pc := 825) (tgt := 955) dL_law_825 (by decide) rfl ?_
  exact kk t s K ⟨ht, hC1.frm hK.frm ht, hR, hK.A hA1⟩
set_option maxRecDepth 20000 in
theorem lc_26 {fm : Value} {n : Nat} {xs : Nat → Int32} {l : Launch} {D : va_G} {Post : Option Int32 → AI → AR → Prop} {i t : Nat} {s : Nat → Nat → Nat} {I : AI} (hn : n ≤ 2048) (hi : i + 4 ≤ n) (hV : LInv t s I) (kk : ∀ (t : Nat) (s : Nat → Nat → Nat) (I : AI), LInv t s I → ZC (YL fm n xs) l D zm_L_law SH 955 (zLL i) [] I (zF t) SH Post) : ZC (YL fm n xs) l D zm_L_law SH 830 (zLL i) [] I (zF t) SH Post := by
  obtain ⟨ht, hC, hR, hA⟩ := hV
  refine C_aload_n (pc := 830) dL_law_830 rfl ?_
  refine C_aload_n (pc := 831) dL_law_831 rfl ?_
  refine C_iload_n (pc := 832) dL_law_832 rfl ?_
  refine C_iconst (pc := 833) (x := nI 1) dL_law_833 (by decide) ?_
  refine C_iadd (pc := 834) dL_law_834 ?_
  refine C_sld (pc := 835) (i + 1) dL_law_835 (nI_add i 1) (by omega) (by omega) ?_
  refine C_aload_n (pc := 836) dL_law_836 rfl ?_
  refine C_iload_n (pc := 837) dL_law_837 rfl ?_
  refine C_iconst (pc := 838) (x := nI 2) dL_law_838 (by decide) ?_
  refine C_iadd (pc := 839) dL_law_839 ?_
  refine C_sld (pc := 840) (i + 2) dL_law_840 (nI_add i 2) (by omega) (by omega) ?_
  refine C_aload_n (pc := 841) dL_law_841 rfl ?_
  refine C_iload_n (pc := 842) dL_law_842 rfl ?_
  refine C_iconst (pc := 843) (x := nI 3) dL_law_843 (by decide) ?_
  refine C_iadd (pc := 844) dL_law_844 ?_
  refine C_sld (pc := 845) (i + 3) dL_law_845 (nI_add i 3) (by omega) (by omega) ?_
  obtain ⟨_, J, _, k1, rfl, rfl, hJ⟩ := ZP.c (Y := YL fm n xs) (s_mean (l := l) (D := D) ht hC hR (x0 := xs (i + 1)) (y0 := xs (i + 2)) (z0 := xs (i + 3)))
  refine C_callV (pc := 846) (S := []) (As := [_, _, _]) (zYo_L fm n xs) k1 dL_law_846 ok_X11_mean ml_L_121 iv_X11_mean ⟨by decide, by decide⟩ (zret_i _) rfl ⟨rfl, by decide⟩ sh_0 ⟨by decide, rfl⟩ (Nat.le_of_ble_eq_true rfl) zNew.rf ?_
  have hC1 : CR t s J := hC.sc hJ ht
  have hA1 : RefA s J := (hJ.hg ht).A hA
  refine C_aload_n (pc := 849) dL_law_849 rfl ?_
  refine C_aload_n (pc := 850) dL_law_850 rfl ?_
  refine C_iload_n (pc := 851) dL_law_851 rfl ?_
  refine C_iconst (pc := 852) (x := nI 1) dL_law_852 (by decide) ?_
  refine C_iadd (pc := 853) dL_law_853 ?_
  refine C_sld (pc := 854) (i + 1) dL_law_854 (nI_add i 1) (by omega) (by omega) ?_
  refine C_aload_n (pc := 855) dL_law_855 rfl ?_
  refine C_iload_n (pc := 856) dL_law_856 rfl ?_
  refine C_iconst (pc := 857) (x := nI 2) dL_law_857 (by decide) ?_
  refine C_iadd (pc := 858) dL_law_858 ?_
  refine C_sld (pc := 859) (i + 2) dL_law_859 (nI_add i 2) (by omega) (by omega) ?_
  refine C_aload_n (pc := 860) dL_law_860 rfl ?_
  refine C_iload_n (pc := 861) dL_law_861 rfl ?_
  refine C_iconst (pc := 862) (x := nI 3) dL_law_862 (by decide) ?_
  refine C_iadd (pc := 863) dL_law_863 ?_
  refine C_sld (pc := 864) (i + 3) dL_law_864 (nI_add i 3) (by omega) (by omega) ?_
  obtain ⟨_, K, _, k2, rfl, rfl, g, hK⟩ := ZP.c (Y := YL fm n xs) (c_mean (l := l) (D := D) (tw := t) hA1 hR.1.1 hR.1.2.1 hR.1.2.2.1.2 hR.1.2.2.1.1 (x0 := xs (i + 1)) (y0 := xs (i + 2)) (z0 := xs (i + 3)))
  refine C_callV (pc := 865) (S := [_]) (As := [_, _, _]) (zYo_L fm n xs) k2 dL_law_865 ok_X12_mean ml_L_124 iv_X12_mean ⟨by decide, by decide⟩ (zret_i _) rfl ⟨rfl, by decide⟩ sh_109 ⟨by decide, rfl⟩ (Nat.le_of_ble_eq_true rfl) zNew.rf ?_
  refine C_icmp_eqT (pc := 868) (tgt := 955) dL_law_868 (by decide) rfl ?_
  obtain ⟨hA2, hlo⟩ := hK.A hA1
  exact kk t (sT s g) K ⟨ht, (hC1.frm hK.frm ht).ag hR hlo.ag, hR.ag hlo.ag, hA2⟩
set_option maxRecDepth 20000 in
theorem lc_27 {fm : Value} {n : Nat} {xs : Nat → Int32} {l : Launch} {D : va_G} {Post : Option Int32 → AI → AR → Prop} {i t : Nat} {s : Nat → Nat → Nat} {I : AI} (hn : n ≤ 2048) (hi : i + 4 ≤ n) (hV : LInv t s I) (kk : ∀ (t : Nat) (s : Nat → Nat → Nat) (I : AI), LInv t s I → ZC (YL fm n xs) l D zm_L_law SH 955 (zLL i) [] I (zF t) SH Post) : ZC (YL fm n xs) l D zm_L_law SH 873 (zLL i) [] I (zF t) SH Post := by
  obtain ⟨ht, hC, hR, hA⟩ := hV
  refine C_aload_n (pc := 873) dL_law_873 rfl ?_
  refine C_aload_n (pc := 874) dL_law_874 rfl ?_
  refine C_iload_n (pc := 875) dL_law_875 rfl ?_
  refine C_iconst (pc := 876) (x := nI 1) dL_law_876 (by decide) ?_
  refine C_iadd (pc := 877) dL_law_877 ?_
  refine C_sld (pc := 878) (i + 1) dL_law_878 (nI_add i 1) (by omega) (by omega) ?_
  refine C_aload_n (pc := 879) dL_law_879 rfl ?_
  refine C_iload_n (pc := 880) dL_law_880 rfl ?_
  refine C_iconst (pc := 881) (x := nI 2) dL_law_881 (by decide) ?_
  refine C_iadd (pc := 882) dL_law_882 ?_
  refine C_sld (pc := 883) (i + 2) dL_law_883 (nI_add i 2) (by omega) (by omega) ?_
  obtain ⟨_, J, _, k1, rfl, rfl, hJ⟩ := ZP.c (Y := YL fm n xs) (s_day (l := l) (D := D) ht hC hR (x := xs (i + 1)) (y := xs (i + 2)))
  refine C_callV (pc := 884) (S := []) (As := [_, _]) (zYo_L fm n xs) k1 dL_law_884 ok_X11_day ml_L_125 iv_X11_day ⟨by decide, by decide⟩ (zret_i _) rfl ⟨rfl, by decide⟩ sh_0 ⟨by decide, rfl⟩ (Nat.le_of_ble_eq_true rfl) zNew.rf ?_
  have hC1 : CR t s J := hC.sc hJ ht
  have hA1 : RefA s J := (hJ.hg ht).A hA
  refine C_aload_n (pc := 887) dL_law_887 rfl ?_
  refine C_aload_n (pc := 888) dL_law_888 rfl ?_
  refine C_iload_n (pc := 889) dL_law_889 rfl ?_
  refine C_iconst (pc := 890) (x := nI 1) dL_law_890 (by decide) ?_
  refine C_iadd (pc := 891) dL_law_891 ?_
  refine C_sld (pc := 892) (i + 1) dL_law_892 (nI_add i 1) (by omega) (by omega) ?_
  refine C_aload_n (pc := 893) dL_law_893 rfl ?_
  refine C_iload_n (pc := 894) dL_law_894 rfl ?_
  refine C_iconst (pc := 895) (x := nI 2) dL_law_895 (by decide) ?_
  refine C_iadd (pc := 896) dL_law_896 ?_
  refine C_sld (pc := 897) (i + 2) dL_law_897 (nI_add i 2) (by omega) (by omega) ?_
  obtain ⟨_, K, _, k2, rfl, rfl, hK⟩ := ZP.c (Y := YL fm n xs) (c_day (l := l) (D := D) (tw := t) hA1.1 hR.1.1 hR.1.2.1 hR.1.2.2.1.2 hR.1.2.2.2.2.2 (x := xs (i + 1)) (y := xs (i + 2)))
  refine C_callV (pc := 898) (S := [_]) (As := [_, _]) (zYo_L fm n xs) k2 dL_law_898 ok_X12_day ml_L_128 iv_X12_day ⟨by decide, by decide⟩ (zret_i _) rfl ⟨rfl, by decide⟩ sh_109 ⟨by decide, rfl⟩ (Nat.le_of_ble_eq_true rfl) zNew.rf ?_
  refine C_icmp_eqT (pc := 901) (tgt := 955) dL_law_901 (by decide) rfl ?_
  exact kk t s K ⟨ht, hC1.frm hK.frm ht, hR, hK.A hA1⟩
set_option maxRecDepth 20000 in
theorem lc_28 {fm : Value} {n : Nat} {xs : Nat → Int32} {l : Launch} {D : va_G} {Post : Option Int32 → AI → AR → Prop} {i t : Nat} {s : Nat → Nat → Nat} {I : AI} (hn : n ≤ 2048) (hi : i + 4 ≤ n) (hV : LInv t s I) (kk : ∀ (t : Nat) (s : Nat → Nat → Nat) (I : AI), LInv t s I → ZC (YL fm n xs) l D zm_L_law SH 955 (zLL i) [] I (zF t) SH Post) : ZC (YL fm n xs) l D zm_L_law SH 906 (zLL i) [] I (zF t) SH Post := by
  obtain ⟨ht, hC, hR, hA⟩ := hV
  refine C_aload_n (pc := 906) dL_law_906 rfl ?_
  obtain ⟨_, J, _, k1, rfl, rfl, hC1, hg⟩ := ZP.c (Y := YL fm n xs) (s_keep (l := l) (D := D) ht hC hR )
  refine C_callV (pc := 907) (S := []) (As := []) (zYo_L fm n xs) k1 dL_law_907 ok_X11_keep ml_L_129 iv_X11_keep ⟨by decide, by decide⟩ (zret_i _) rfl ⟨rfl, by decide⟩ sh_0 ⟨by decide, rfl⟩ (Nat.le_of_ble_eq_true rfl) zNew.rf ?_
  have hA1 : RefA s J := hg.A hA
  refine C_aload_n (pc := 910) dL_law_910 rfl ?_
  obtain ⟨_, K, _, k2, rfl, rfl, hA2, hF⟩ := ZP.c (Y := YL fm n xs) (c_keep (l := l) (D := D) (tw := t) hA1 hR.1.1 hR.1.2.1 hR.2.1.2.1 )
  refine C_callV (pc := 911) (S := [_]) (As := []) (zYo_L fm n xs) k2 dL_law_911 ok_X12_keep ml_L_132 iv_X12_keep ⟨by decide, by decide⟩ (zret_i _) rfl ⟨rfl, by decide⟩ sh_109 ⟨by decide, rfl⟩ (Nat.le_of_ble_eq_true rfl) zNew.rf ?_
  refine C_icmp_eqT (pc := 914) (tgt := 955) dL_law_914 (by decide) rfl ?_
  exact kk t (nKeep s) K ⟨ht, hC1.frm hF ht, hR.toKeep, hA2⟩
set_option maxRecDepth 20000 in
theorem lc_29 {fm : Value} {n : Nat} {xs : Nat → Int32} {l : Launch} {D : va_G} {Post : Option Int32 → AI → AR → Prop} {i t : Nat} {s : Nat → Nat → Nat} {I : AI} (hn : n ≤ 2048) (hi : i + 4 ≤ n) (hV : LInv t s I) (kk : ∀ (t : Nat) (s : Nat → Nat → Nat) (I : AI), LInv t s I → ZC (YL fm n xs) l D zm_L_law SH 955 (zLL i) [] I (zF t) SH Post) : ZC (YL fm n xs) l D zm_L_law SH 919 (zLL i) [] I (zF t) SH Post := by
  obtain ⟨ht, hC, hR, hA⟩ := hV
  refine C_aload_n (pc := 919) dL_law_919 rfl ?_
  obtain ⟨_, J, _, k1, rfl, rfl, hC1, hg⟩ := ZP.c (Y := YL fm n xs) (s_back (l := l) (D := D) ht hC hR )
  refine C_callV (pc := 920) (S := []) (As := []) (zYo_L fm n xs) k1 dL_law_920 ok_X11_back ml_L_133 iv_X11_back ⟨by decide, by decide⟩ (zret_i _) rfl ⟨rfl, by decide⟩ sh_0 ⟨by decide, rfl⟩ (Nat.le_of_ble_eq_true rfl) zNew.rf ?_
  have hA1 : RefA s J := hg.A hA
  refine C_aload_n (pc := 923) dL_law_923 rfl ?_
  obtain ⟨_, K, _, k2, rfl, rfl, hA2, hF⟩ := ZP.c (Y := YL fm n xs) (c_back (l := l) (D := D) (tw := t) hA1 hR.1.1 hR.1.2.1 hR.2.1.2.1 )
  refine C_callV (pc := 924) (S := [_]) (As := []) (zYo_L fm n xs) k2 dL_law_924 ok_X12_back ml_L_136 iv_X12_back ⟨by decide, by decide⟩ (zret_i _) rfl ⟨rfl, by decide⟩ sh_109 ⟨by decide, rfl⟩ (Nat.le_of_ble_eq_true rfl) zNew.rf ?_
  refine C_icmp_eqT (pc := 927) (tgt := 955) dL_law_927 (by decide) rfl ?_
  exact kk t (nBack s) K ⟨ht, hC1.frm hF ht, hR.toBack, hA2⟩
set_option maxRecDepth 20000 in
theorem lc_30 {fm : Value} {n : Nat} {xs : Nat → Int32} {l : Launch} {D : va_G} {Post : Option Int32 → AI → AR → Prop} {i t : Nat} {s : Nat → Nat → Nat} {I : AI} (hn : n ≤ 2048) (hi : i + 4 ≤ n) (hV : LInv t s I) (kk : ∀ (t : Nat) (s : Nat → Nat → Nat) (I : AI), LInv t s I → ZC (YL fm n xs) l D zm_L_law SH 955 (zLL i) [] I (zF t) SH Post) : ZC (YL fm n xs) l D zm_L_law SH 932 (zLL i) [] I (zF t) SH Post := by
  obtain ⟨ht, hC, hR, hA⟩ := hV
  refine C_aload_n (pc := 932) dL_law_932 rfl ?_
  refine C_aload_n (pc := 933) dL_law_933 rfl ?_
  refine C_iload_n (pc := 934) dL_law_934 rfl ?_
  refine C_iconst (pc := 935) (x := nI 1) dL_law_935 (by decide) ?_
  refine C_iadd (pc := 936) dL_law_936 ?_
  refine C_sld (pc := 937) (i + 1) dL_law_937 (nI_add i 1) (by omega) (by omega) ?_
  obtain ⟨_, _, _, k1, rfl, rfl, rfl⟩ := ZP.c (Y := YL fm n xs) (s_count (l := l) (D := D) ht hC hR (x := xs (i + 1)))
  refine C_callV (pc := 938) (S := []) (As := [_]) (zYo_L fm n xs) k1 dL_law_938 ok_X11_count ml_L_137 iv_X11_count ⟨by decide, by decide⟩ (zret_i _) rfl ⟨rfl, by decide⟩ sh_0 ⟨by decide, rfl⟩ (Nat.le_of_ble_eq_true rfl) zNew.rf ?_
  have hA1 := hA
  refine C_aload_n (pc := 941) dL_law_941 rfl ?_
  refine C_aload_n (pc := 942) dL_law_942 rfl ?_
  refine C_iload_n (pc := 943) dL_law_943 rfl ?_
  refine C_iconst (pc := 944) (x := nI 1) dL_law_944 (by decide) ?_
  refine C_iadd (pc := 945) dL_law_945 ?_
  refine C_sld (pc := 946) (i + 1) dL_law_946 (nI_add i 1) (by omega) (by omega) ?_
  obtain ⟨_, _, _, k2, rfl, rfl, rfl⟩ := ZP.c (Y := YL fm n xs) (c_count (l := l) (D := D) (tw := t) hA1 (x := xs (i + 1)))
  refine C_callV (pc := 947) (S := [_]) (As := [_]) (zYo_L fm n xs) k2 dL_law_947 ok_X12_count ml_L_140 iv_X12_count ⟨by decide, by decide⟩ (zret_i _) rfl ⟨rfl, by decide⟩ sh_109 ⟨by decide, rfl⟩ (Nat.le_of_ble_eq_true rfl) zNew.rf ?_
  refine C_icmp_eqT (pc := 950) (tgt := 955) dL_law_950 (by decide) rfl ?_
  exact kk t s I ⟨ht, hC, hR, hA⟩
