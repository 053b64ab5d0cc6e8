theorem dX11_taxBy_59 : decode cX11_taxBy 59 = .ok (.invokevirtual 254, 3) := by decide +kernel
theorem dX11_taxBy_62 : decode cX11_taxBy 62 = .ok (.iload_n 3, 1) := by decide +kernel
theorem dX11_taxBy_63 : decode cX11_taxBy 63 = .ok (.aload_n 0, 1) := by decide +kernel
theorem dX11_taxBy_64 : decode cX11_taxBy 64 = .ok (.getfield 36, 3) := by decide +kernel
theorem dX11_taxBy_67 : decode cX11_taxBy 67 = .ok (.getfield 200, 3) := by decide +kernel
theorem dX11_taxBy_70 : decode cX11_taxBy 70 = .ok (.iadd, 1) := by decide +kernel
theorem dX11_taxBy_71 : decode cX11_taxBy 71 = .ok (.istore_n 3, 1) := by decide +kernel
theorem dX11_taxBy_72 : decode cX11_taxBy 72 = .ok (.iinc 4 1, 3) := by decide +kernel
theorem dX11_taxBy_75 : decode cX11_taxBy 75 = .ok (.goto (-62), 3) := by decide +kernel
theorem dX11_taxBy_78 : decode cX11_taxBy 78 = .ok (.iload_n 3, 1) := by decide +kernel
theorem dX11_taxBy_79 : decode cX11_taxBy 79 = .ok (.ireturn, 1) := by decide +kernel
theorem dX11_offerLures_0 : decode cX11_offerLures 0 = .ok (.aload_n 0, 1) := by decide +kernel
theorem dX11_offerLures_1 : decode cX11_offerLures 1 = .ok (.getfield 43, 3) := by decide +kernel
theorem dX11_offerLures_4 : decode cX11_offerLures 4 = .ok (.getfield 214, 3) := by decide +kernel
theorem dX11_offerLures_7 : decode cX11_offerLures 7 = .ok (.istore 4, 2) := by decide +kernel
theorem dX11_offerLures_9 : decode cX11_offerLures 9 = .ok (.iconst 0, 1) := by decide +kernel
theorem dX11_offerLures_10 : decode cX11_offerLures 10 = .ok (.istore 5, 2) := by decide +kernel
theorem dX11_offerLures_12 : decode cX11_offerLures 12 = .ok (.iload 5, 2) := by decide +kernel
theorem dX11_offerLures_14 : decode cX11_offerLures 14 = .ok (.aload_n 0, 1) := by decide +kernel
theorem dX11_offerLures_15 : decode cX11_offerLures 15 = .ok (.getfield 26, 3) := by decide +kernel
theorem dX11_offerLures_18 : decode cX11_offerLures 18 = .ok (.getfield 125, 3) := by decide +kernel
theorem dX11_offerLures_21 : decode cX11_offerLures 21 = .ok (.getfield 143, 3) := by decide +kernel
theorem dX11_offerLures_24 : decode cX11_offerLures 24 = .ok (.if_icmp .ge 86, 3) := by decide +kernel
theorem dX11_offerLures_27 : decode cX11_offerLures 27 = .ok (.aload_n 0, 1) := by decide +kernel
theorem dX11_offerLures_28 : decode cX11_offerLures 28 = .ok (.getfield 26, 3) := by decide +kernel
theorem dX11_offerLures_31 : decode cX11_offerLures 31 = .ok (.getfield 125, 3) := by decide +kernel
theorem dX11_offerLures_34 : decode cX11_offerLures 34 = .ok (.getfield 150, 3) := by decide +kernel
theorem dX11_offerLures_37 : decode cX11_offerLures 37 = .ok (.iload_n 1, 1) := by decide +kernel
theorem dX11_offerLures_38 : decode cX11_offerLures 38 = .ok (.aaload, 1) := by decide +kernel
theorem dX11_offerLures_39 : decode cX11_offerLures 39 = .ok (.iload 5, 2) := by decide +kernel
theorem dX11_offerLures_41 : decode cX11_offerLures 41 = .ok (.iaload, 1) := by decide +kernel
theorem dX11_offerLures_42 : decode cX11_offerLures 42 = .ok (.ifCond .le 62, 3) := by decide +kernel
theorem dX11_offerLures_45 : decode cX11_offerLures 45 = .ok (.aload_n 0, 1) := by decide +kernel
theorem dX11_offerLures_46 : decode cX11_offerLures 46 = .ok (.getfield 43, 3) := by decide +kernel
theorem dX11_offerLures_49 : decode cX11_offerLures 49 = .ok (.iload 4, 2) := by decide +kernel
theorem dX11_offerLures_51 : decode cX11_offerLures 51 = .ok (.iload_n 1, 1) := by decide +kernel
theorem dX11_offerLures_52 : decode cX11_offerLures 52 = .ok (.iload_n 2, 1) := by decide +kernel
theorem dX11_offerLures_53 : decode cX11_offerLures 53 = .ok (.iload 5, 2) := by decide +kernel
theorem dX11_offerLures_55 : decode cX11_offerLures 55 = .ok (.invokevirtual 219, 3) := by decide +kernel
theorem dX11_offerLures_58 : decode cX11_offerLures 58 = .ok (.aload_n 0, 1) := by decide +kernel
theorem dX11_offerLures_59 : decode cX11_offerLures 59 = .ok (.aload_n 0, 1) := by decide +kernel
theorem dX11_offerLures_60 : decode cX11_offerLures 60 = .ok (.getfield 43, 3) := by decide +kernel
theorem dX11_offerLures_63 : decode cX11_offerLures 63 = .ok (.invokevirtual 210, 3) := by decide +kernel
theorem dX11_offerLures_66 : decode cX11_offerLures 66 = .ok (.istore 6, 2) := by decide +kernel
theorem dX11_offerLures_68 : decode cX11_offerLures 68 = .ok (.aload_n 0, 1) := by decide +kernel
theorem dX11_offerLures_69 : decode cX11_offerLures 69 = .ok (.getfield 43, 3) := by decide +kernel
theorem dX11_offerLures_72 : decode cX11_offerLures 72 = .ok (.iload 4, 2) := by decide +kernel
theorem dX11_offerLures_74 : decode cX11_offerLures 74 = .ok (.invokevirtual 223, 3) := by decide +kernel
theorem dX11_offerLures_77 : decode cX11_offerLures 77 = .ok (.iload 6, 2) := by decide +kernel
theorem dX11_offerLures_79 : decode cX11_offerLures 79 = .ok (.iload_n 3, 1) := by decide +kernel
theorem dX11_offerLures_80 : decode cX11_offerLures 80 = .ok (.if_icmp .le 24, 3) := by decide +kernel
theorem dX11_offerLures_83 : decode cX11_offerLures 83 = .ok (.aload_n 0, 1) := by decide +kernel
theorem dX11_offerLures_84 : decode cX11_offerLures 84 = .ok (.getfield 71, 3) := by decide +kernel
theorem dX11_offerLures_87 : decode cX11_offerLures 87 = .ok (.bipush 100, 2) := by decide +kernel
theorem dX11_offerLures_89 : decode cX11_offerLures 89 = .ok (.iload_n 1, 1) := by decide +kernel
theorem dX11_offerLures_90 : decode cX11_offerLures 90 = .ok (.imul, 1) := by decide +kernel
theorem dX11_offerLures_91 : decode cX11_offerLures 91 = .ok (.bipush 10, 2) := by decide +kernel
theorem dX11_offerLures_93 : decode cX11_offerLures 93 = .ok (.iload_n 2, 1) := by decide +kernel
theorem dX11_offerLures_94 : decode cX11_offerLures 94 = .ok (.imul, 1) := by decide +kernel
theorem dX11_offerLures_95 : decode cX11_offerLures 95 = .ok (.iadd, 1) := by decide +kernel
theorem dX11_offerLures_96 : decode cX11_offerLures 96 = .ok (.iload 5, 2) := by decide +kernel
theorem dX11_offerLures_98 : decode cX11_offerLures 98 = .ok (.iadd, 1) := by decide +kernel
theorem dX11_offerLures_99 : decode cX11_offerLures 99 = .ok (.iload 6, 2) := by decide +kernel
theorem dX11_offerLures_101 : decode cX11_offerLures 101 = .ok (.invokevirtual 268, 3) := by decide +kernel
theorem dX11_offerLures_104 : decode cX11_offerLures 104 = .ok (.iinc 5 1, 3) := by decide +kernel
theorem dX11_offerLures_107 : decode cX11_offerLures 107 = .ok (.goto (-95), 3) := by decide +kernel
theorem dX11_offerLures_110 : decode cX11_offerLures 110 = .ok (.return_, 1) := by decide +kernel
theorem dX11_taxOfSet_0 : decode cX11_taxOfSet 0 = .ok (.iconst 0, 1) := by decide +kernel
theorem dX11_taxOfSet_1 : decode cX11_taxOfSet 1 = .ok (.istore_n 3, 1) := by decide +kernel
theorem dX11_taxOfSet_2 : decode cX11_taxOfSet 2 = .ok (.iconst 0, 1) := by decide +kernel
theorem dX11_taxOfSet_3 : decode cX11_taxOfSet 3 = .ok (.istore 4, 2) := by decide +kernel
theorem dX11_taxOfSet_5 : decode cX11_taxOfSet 5 = .ok (.iload 4, 2) := by decide +kernel
theorem dX11_taxOfSet_7 : decode cX11_taxOfSet 7 = .ok (.iload_n 2, 1) := by decide +kernel
theorem dX11_taxOfSet_8 : decode cX11_taxOfSet 8 = .ok (.if_icmp .ge 29, 3) := by decide +kernel
theorem dX11_taxOfSet_11 : decode cX11_taxOfSet 11 = .ok (.iload_n 1, 1) := by decide +kernel
theorem dX11_taxOfSet_12 : decode cX11_taxOfSet 12 = .ok (.iload 4, 2) := by decide +kernel
theorem dX11_taxOfSet_14 : decode cX11_taxOfSet 14 = .ok (.ishr, 1) := by decide +kernel
theorem dX11_taxOfSet_15 : decode cX11_taxOfSet 15 = .ok (.iconst 1, 1) := by decide +kernel
theorem dX11_taxOfSet_16 : decode cX11_taxOfSet 16 = .ok (.iand, 1) := by decide +kernel
theorem dX11_taxOfSet_17 : decode cX11_taxOfSet 17 = .ok (.iconst 1, 1) := by decide +kernel
theorem dX11_taxOfSet_18 : decode cX11_taxOfSet 18 = .ok (.if_icmp .ne 13, 3) := by decide +kernel
theorem dX11_taxOfSet_21 : decode cX11_taxOfSet 21 = .ok (.iload_n 3, 1) := by decide +kernel
theorem dX11_taxOfSet_22 : decode cX11_taxOfSet 22 = .ok (.aload_n 0, 1) := by decide +kernel
theorem dX11_taxOfSet_23 : decode cX11_taxOfSet 23 = .ok (.getfield 84, 3) := by decide +kernel
theorem dX11_taxOfSet_26 : decode cX11_taxOfSet 26 = .ok (.iload 4, 2) := by decide +kernel
theorem dX11_taxOfSet_28 : decode cX11_taxOfSet 28 = .ok (.iaload, 1) := by decide +kernel
theorem dX11_taxOfSet_29 : decode cX11_taxOfSet 29 = .ok (.iadd, 1) := by decide +kernel
theorem dX11_taxOfSet_30 : decode cX11_taxOfSet 30 = .ok (.istore_n 3, 1) := by decide +kernel
theorem dX11_taxOfSet_31 : decode cX11_taxOfSet 31 = .ok (.iinc 4 1, 3) := by decide +kernel
theorem dX11_taxOfSet_34 : decode cX11_taxOfSet 34 = .ok (.goto (-29), 3) := by decide +kernel
theorem dX11_taxOfSet_37 : decode cX11_taxOfSet 37 = .ok (.iload_n 3, 1) := by decide +kernel
theorem dX11_taxOfSet_38 : decode cX11_taxOfSet 38 = .ok (.ireturn, 1) := by decide +kernel
theorem dX11_weightOfTurned_0 : decode cX11_weightOfTurned 0 = .ok (.iconst 1, 1) := by decide +kernel
theorem dX11_weightOfTurned_1 : decode cX11_weightOfTurned 1 = .ok (.istore_n 3, 1) := by decide +kernel
theorem dX11_weightOfTurned_2 : decode cX11_weightOfTurned 2 = .ok (.iconst 0, 1) := by decide +kernel
theorem dX11_weightOfTurned_3 : decode cX11_weightOfTurned 3 = .ok (.istore 4, 2) := by decide +kernel
theorem dX11_weightOfTurned_5 : decode cX11_weightOfTurned 5 = .ok (.iload 4, 2) := by decide +kernel
theorem dX11_weightOfTurned_7 : decode cX11_weightOfTurned 7 = .ok (.iload_n 1, 1) := by decide +kernel
theorem dX11_weightOfTurned_8 : decode cX11_weightOfTurned 8 = .ok (.if_icmp .ge 30, 3) := by decide +kernel
theorem dX11_weightOfTurned_11 : decode cX11_weightOfTurned 11 = .ok (.iload_n 3, 1) := by decide +kernel
theorem dX11_weightOfTurned_12 : decode cX11_weightOfTurned 12 = .ok (.iload_n 0, 1) := by decide +kernel
theorem dX11_weightOfTurned_13 : decode cX11_weightOfTurned 13 = .ok (.iload 4, 2) := by decide +kernel
theorem dX11_weightOfTurned_15 : decode cX11_weightOfTurned 15 = .ok (.ishr, 1) := by decide +kernel
theorem dX11_weightOfTurned_16 : decode cX11_weightOfTurned 16 = .ok (.iconst 1, 1) := by decide +kernel
theorem dX11_weightOfTurned_17 : decode cX11_weightOfTurned 17 = .ok (.iand, 1) := by decide +kernel
theorem dX11_weightOfTurned_18 : decode cX11_weightOfTurned 18 = .ok (.iconst 1, 1) := by decide +kernel
theorem dX11_weightOfTurned_19 : decode cX11_weightOfTurned 19 = .ok (.if_icmp .ne 7, 3) := by decide +kernel
theorem dX11_weightOfTurned_22 : decode cX11_weightOfTurned 22 = .ok (.iload_n 2, 1) := by decide +kernel
theorem dX11_weightOfTurned_23 : decode cX11_weightOfTurned 23 = .ok (.goto 7, 3) := by decide +kernel
theorem dX11_weightOfTurned_26 : decode cX11_weightOfTurned 26 = .ok (.bipush 10, 2) := by decide +kernel
theorem dX11_weightOfTurned_28 : decode cX11_weightOfTurned 28 = .ok (.iload_n 2, 1) := by decide +kernel
theorem dX11_weightOfTurned_29 : decode cX11_weightOfTurned 29 = .ok (.isub, 1) := by decide +kernel
theorem dX11_weightOfTurned_30 : decode cX11_weightOfTurned 30 = .ok (.imul, 1) := by decide +kernel
theorem dX11_weightOfTurned_31 : decode cX11_weightOfTurned 31 = .ok (.istore_n 3, 1) := by decide +kernel
theorem dX11_weightOfTurned_32 : decode cX11_weightOfTurned 32 = .ok (.iinc 4 1, 3) := by decide +kernel
theorem dX11_weightOfTurned_35 : decode cX11_weightOfTurned 35 = .ok (.goto (-30), 3) := by decide +kernel
theorem dX11_weightOfTurned_38 : decode cX11_weightOfTurned 38 = .ok (.iload_n 3, 1) := by decide +kernel
theorem dX11_weightOfTurned_39 : decode cX11_weightOfTurned 39 = .ok (.ireturn, 1) := by decide +kernel
theorem dX11_turnSigns_0 : decode cX11_turnSigns 0 = .ok (.aload_n 0, 1) := by decide +kernel
theorem dX11_turnSigns_1 : decode cX11_turnSigns 1 = .ok (.getfield 43, 3) := by decide +kernel
theorem dX11_turnSigns_4 : decode cX11_turnSigns 4 = .ok (.aload_n 0, 1) := by decide +kernel
theorem dX11_turnSigns_5 : decode cX11_turnSigns 5 = .ok (.getfield 26, 3) := by decide +kernel
theorem dX11_turnSigns_8 : decode cX11_turnSigns 8 = .ok (.getfield 156, 3) := by decide +kernel
theorem dX11_turnSigns_11 : decode cX11_turnSigns 11 = .ok (.invokevirtual 236, 3) := by decide +kernel
theorem dX11_turnSigns_14 : decode cX11_turnSigns 14 = .ok (.iconst 0, 1) := by decide +kernel
theorem dX11_turnSigns_15 : decode cX11_turnSigns 15 = .ok (.istore_n 3, 1) := by decide +kernel
theorem dX11_turnSigns_16 : decode cX11_turnSigns 16 = .ok (.iload_n 3, 1) := by decide +kernel
theorem dX11_turnSigns_17 : decode cX11_turnSigns 17 = .ok (.iload_n 2, 1) := by decide +kernel
theorem dX11_turnSigns_18 : decode cX11_turnSigns 18 = .ok (.if_icmp .ge 55, 3) := by decide +kernel
theorem dX11_turnSigns_21 : decode cX11_turnSigns 21 = .ok (.iload_n 1, 1) := by decide +kernel
theorem dX11_turnSigns_22 : decode cX11_turnSigns 22 = .ok (.iload_n 3, 1) := by decide +kernel
theorem dX11_turnSigns_23 : decode cX11_turnSigns 23 = .ok (.ishr, 1) := by decide +kernel
theorem dX11_turnSigns_24 : decode cX11_turnSigns 24 = .ok (.iconst 1, 1) := by decide +kernel
theorem dX11_turnSigns_25 : decode cX11_turnSigns 25 = .ok (.iand, 1) := by decide +kernel
theorem dX11_turnSigns_26 : decode cX11_turnSigns 26 = .ok (.iconst 1, 1) := by decide +kernel
theorem dX11_turnSigns_27 : decode cX11_turnSigns 27 = .ok (.if_icmp .ne 40, 3) := by decide +kernel
theorem dX11_turnSigns_30 : decode cX11_turnSigns 30 = .ok (.aload_n 0, 1) := by decide +kernel
theorem dX11_turnSigns_31 : decode cX11_turnSigns 31 = .ok (.getfield 43, 3) := by decide +kernel
theorem dX11_turnSigns_34 : decode cX11_turnSigns 34 = .ok (.getfield 164, 3) := by decide +kernel
theorem dX11_turnSigns_37 : decode cX11_turnSigns 37 = .ok (.iload_n 3, 1) := by decide +kernel
theorem dX11_turnSigns_38 : decode cX11_turnSigns 38 = .ok (.aload_n 0, 1) := by decide +kernel
theorem dX11_turnSigns_39 : decode cX11_turnSigns 39 = .ok (.getfield 26, 3) := by decide +kernel
theorem dX11_turnSigns_42 : decode cX11_turnSigns 42 = .ok (.getfield 125, 3) := by decide +kernel
theorem dX11_turnSigns_45 : decode cX11_turnSigns 45 = .ok (.aload_n 0, 1) := by decide +kernel
theorem dX11_turnSigns_46 : decode cX11_turnSigns 46 = .ok (.getfield 43, 3) := by decide +kernel
theorem dX11_turnSigns_49 : decode cX11_turnSigns 49 = .ok (.getfield 159, 3) := by decide +kernel
theorem dX11_turnSigns_52 : decode cX11_turnSigns 52 = .ok (.iload_n 3, 1) := by decide +kernel
theorem dX11_turnSigns_53 : decode cX11_turnSigns 53 = .ok (.iaload, 1) := by decide +kernel
theorem dX11_turnSigns_54 : decode cX11_turnSigns 54 = .ok (.aload_n 0, 1) := by decide +kernel
theorem dX11_turnSigns_55 : decode cX11_turnSigns 55 = .ok (.getfield 43, 3) := by decide +kernel
theorem dX11_turnSigns_58 : decode cX11_turnSigns 58 = .ok (.getfield 164, 3) := by decide +kernel
theorem dX11_turnSigns_61 : decode cX11_turnSigns 61 = .ok (.iload_n 3, 1) := by decide +kernel
theorem dX11_turnSigns_62 : decode cX11_turnSigns 62 = .ok (.iaload, 1) := by decide +kernel
theorem dX11_turnSigns_63 : decode cX11_turnSigns 63 = .ok (.invokevirtual 314, 3) := by decide +kernel
theorem dX11_turnSigns_66 : decode cX11_turnSigns 66 = .ok (.iastore, 1) := by decide +kernel
theorem dX11_turnSigns_67 : decode cX11_turnSigns 67 = .ok (.iinc 3 1, 3) := by decide +kernel
theorem dX11_turnSigns_70 : decode cX11_turnSigns 70 = .ok (.goto (-54), 3) := by decide +kernel
theorem dX11_turnSigns_73 : decode cX11_turnSigns 73 = .ok (.return_, 1) := by decide +kernel
theorem dX11_commonDivisor_0 : decode cX11_commonDivisor 0 = .ok (.iload_n 0, 1) := by decide +kernel
theorem dX11_commonDivisor_1 : decode cX11_commonDivisor 1 = .ok (.istore_n 2, 1) := by decide +kernel
theorem dX11_commonDivisor_2 : decode cX11_commonDivisor 2 = .ok (.iload_n 1, 1) := by decide +kernel
theorem dX11_commonDivisor_3 : decode cX11_commonDivisor 3 = .ok (.istore_n 3, 1) := by decide +kernel
theorem dX11_commonDivisor_4 : decode cX11_commonDivisor 4 = .ok (.iconst 0, 1) := by decide +kernel
theorem dX11_commonDivisor_5 : decode cX11_commonDivisor 5 = .ok (.istore 4, 2) := by decide +kernel
theorem dX11_commonDivisor_7 : decode cX11_commonDivisor 7 = .ok (.iload 4, 2) := by decide +kernel
theorem dX11_commonDivisor_9 : decode cX11_commonDivisor 9 = .ok (.bipush 100, 2) := by decide +kernel
theorem dX11_commonDivisor_11 : decode cX11_commonDivisor 11 = .ok (.if_icmp .ge 23, 3) := by decide +kernel
theorem dX11_commonDivisor_14 : decode cX11_commonDivisor 14 = .ok (.iload_n 3, 1) := by decide +kernel
theorem dX11_commonDivisor_15 : decode cX11_commonDivisor 15 = .ok (.ifCond .eq 19, 3) := by decide +kernel
theorem dX11_commonDivisor_18 : decode cX11_commonDivisor 18 = .ok (.iload_n 2, 1) := by decide +kernel
theorem dX11_commonDivisor_19 : decode cX11_commonDivisor 19 = .ok (.iload_n 3, 1) := by decide +kernel
theorem dX11_commonDivisor_20 : decode cX11_commonDivisor 20 = .ok (.irem, 1) := by decide +kernel
theorem dX11_commonDivisor_21 : decode cX11_commonDivisor 21 = .ok (.istore 5, 2) := by decide +kernel
theorem dX11_commonDivisor_23 : decode cX11_commonDivisor 23 = .ok (.iload_n 3, 1) := by decide +kernel
theorem dX11_commonDivisor_24 : decode cX11_commonDivisor 24 = .ok (.istore_n 2, 1) := by decide +kernel
theorem dX11_commonDivisor_25 : decode cX11_commonDivisor 25 = .ok (.iload 5, 2) := by decide +kernel
theorem dX11_commonDivisor_27 : decode cX11_commonDivisor 27 = .ok (.istore_n 3, 1) := by decide +kernel
theorem dX11_commonDivisor_28 : decode cX11_commonDivisor 28 = .ok (.iinc 4 1, 3) := by decide +kernel
theorem dX11_commonDivisor_31 : decode cX11_commonDivisor 31 = .ok (.goto (-24), 3) := by decide +kernel
theorem dX11_commonDivisor_34 : decode cX11_commonDivisor 34 = .ok (.iconst 1, 1) := by decide +kernel
theorem dX11_commonDivisor_35 : decode cX11_commonDivisor 35 = .ok (.iload_n 2, 1) := by decide +kernel
theorem dX11_commonDivisor_36 : decode cX11_commonDivisor 36 = .ok (.invokestatic 302, 3) := by decide +kernel
theorem dX11_commonDivisor_39 : decode cX11_commonDivisor 39 = .ok (.ireturn, 1) := by decide +kernel
theorem dX11_drawOf_0 : decode cX11_drawOf 0 = .ok (.ldc2_w 317, 3) := by decide +kernel
theorem dX11_drawOf_3 : decode cX11_drawOf 3 = .ok (.iload_n 0, 1) := by decide +kernel
theorem dX11_drawOf_4 : decode cX11_drawOf 4 = .ok (.i2l, 1) := by decide +kernel
theorem dX11_drawOf_5 : decode cX11_drawOf 5 = .ok (.lmul, 1) := by decide +kernel
theorem dX11_drawOf_6 : decode cX11_drawOf 6 = .ok (.ldc2_w 319, 3) := by decide +kernel
theorem dX11_drawOf_9 : decode cX11_drawOf 9 = .ok (.iload_n 1, 1) := by decide +kernel
theorem dX11_drawOf_10 : decode cX11_drawOf 10 = .ok (.i2l, 1) := by decide +kernel
theorem dX11_drawOf_11 : decode cX11_drawOf 11 = .ok (.lmul, 1) := by decide +kernel
theorem dX11_drawOf_12 : decode cX11_drawOf 12 = .ok (.ladd, 1) := by decide +kernel
theorem dX11_drawOf_13 : decode cX11_drawOf 13 = .ok (.lconst 1, 1) := by decide +kernel
theorem dX11_drawOf_14 : decode cX11_drawOf 14 = .ok (.ladd, 1) := by decide +kernel
theorem dX11_drawOf_15 : decode cX11_drawOf 15 = .ok (.lstore_n 2, 1) := by decide +kernel
theorem dX11_drawOf_16 : decode cX11_drawOf 16 = .ok (.lload_n 2, 1) := by decide +kernel
theorem dX11_drawOf_17 : decode cX11_drawOf 17 = .ok (.lload_n 2, 1) := by decide +kernel
theorem dX11_drawOf_18 : decode cX11_drawOf 18 = .ok (.lmul, 1) := by decide +kernel
theorem dX11_drawOf_19 : decode cX11_drawOf 19 = .ok (.ldc2_w 321, 3) := by decide +kernel
theorem dX11_drawOf_22 : decode cX11_drawOf 22 = .ok (.lrem, 1) := by decide +kernel
theorem dX11_drawOf_23 : decode cX11_drawOf 23 = .ok (.l2i, 1) := by decide +kernel
theorem dX11_drawOf_24 : decode cX11_drawOf 24 = .ok (.ireturn, 1) := by decide +kernel
theorem dX12_init_0 : decode cX12_init 0 = .ok (.aload_n 0, 1) := by decide +kernel
theorem dX12_init_1 : decode cX12_init 1 = .ok (.invokespecial 1, 3) := by decide +kernel
theorem dX12_init_4 : decode cX12_init 4 = .ok (.aload_n 0, 1) := by decide +kernel
theorem dX12_init_5 : decode cX12_init 5 = .ok (.sipush 200, 3) := by decide +kernel
theorem dX12_init_8 : decode cX12_init 8 = .ok (.newarray .byte, 2) := by decide +kernel
theorem dX12_init_10 : decode cX12_init 10 = .ok (.putfield 7, 3) := by decide +kernel
theorem dX12_init_13 : decode cX12_init 13 = .ok (.aload_n 0, 1) := by decide +kernel
theorem dX12_init_14 : decode cX12_init 14 = .ok (.iconst 2, 1) := by decide +kernel
theorem dX12_init_15 : decode cX12_init 15 = .ok (.newarray .int, 2) := by decide +kernel
theorem dX12_init_17 : decode cX12_init 17 = .ok (.putfield 13, 3) := by decide +kernel
theorem dX12_init_20 : decode cX12_init 20 = .ok (.aload_n 0, 1) := by decide +kernel
theorem dX12_init_21 : decode cX12_init 21 = .ok (.iconst 2, 1) := by decide +kernel
theorem dX12_init_22 : decode cX12_init 22 = .ok (.newarray .int, 2) := by decide +kernel
theorem dX12_init_24 : decode cX12_init 24 = .ok (.putfield 17, 3) := by decide +kernel
theorem dX12_init_27 : decode cX12_init 27 = .ok (.aload_n 0, 1) := by decide +kernel
theorem dX12_init_28 : decode cX12_init 28 = .ok (.bipush 24, 2) := by decide +kernel
theorem dX12_init_30 : decode cX12_init 30 = .ok (.newarray .int, 2) := by decide +kernel
theorem dX12_init_32 : decode cX12_init 32 = .ok (.putfield 20, 3) := by decide +kernel
theorem dX12_init_35 : decode cX12_init 35 = .ok (.aload_n 0, 1) := by decide +kernel
theorem dX12_init_36 : decode cX12_init 36 = .ok (.bipush 24, 2) := by decide +kernel
theorem dX12_init_38 : decode cX12_init 38 = .ok (.newarray .int, 2) := by decide +kernel
theorem dX12_init_40 : decode cX12_init 40 = .ok (.putfield 23, 3) := by decide +kernel
theorem dX12_init_43 : decode cX12_init 43 = .ok (.aload_n 0, 1) := by decide +kernel
theorem dX12_init_44 : decode cX12_init 44 = .ok (.bipush 24, 2) := by decide +kernel
theorem dX12_init_46 : decode cX12_init 46 = .ok (.newarray .int, 2) := by decide +kernel
theorem dX12_init_48 : decode cX12_init 48 = .ok (.putfield 26, 3) := by decide +kernel
theorem dX12_init_51 : decode cX12_init 51 = .ok (.aload_n 0, 1) := by decide +kernel
theorem dX12_init_52 : decode cX12_init 52 = .ok (.iconst 2, 1) := by decide +kernel
theorem dX12_init_53 : decode cX12_init 53 = .ok (.newarray .int, 2) := by decide +kernel
theorem dX12_init_55 : decode cX12_init 55 = .ok (.putfield 29, 3) := by decide +kernel
theorem dX12_init_58 : decode cX12_init 58 = .ok (.aload_n 0, 1) := by decide +kernel
theorem dX12_init_59 : decode cX12_init 59 = .ok (.bipush 8, 2) := by decide +kernel
theorem dX12_init_61 : decode cX12_init 61 = .ok (.newarray .int, 2) := by decide +kernel
theorem dX12_init_63 : decode cX12_init 63 = .ok (.putfield 32, 3) := by decide +kernel
theorem dX12_init_66 : decode cX12_init 66 = .ok (.aload_n 0, 1) := by decide +kernel
theorem dX12_init_67 : decode cX12_init 67 = .ok (.bipush 8, 2) := by decide +kernel
theorem dX12_init_69 : decode cX12_init 69 = .ok (.newarray .int, 2) := by decide +kernel
theorem dX12_init_71 : decode cX12_init 71 = .ok (.putfield 35, 3) := by decide +kernel
theorem dX12_init_74 : decode cX12_init 74 = .ok (.aload_n 0, 1) := by decide +kernel
theorem dX12_init_75 : decode cX12_init 75 = .ok (.bipush 8, 2) := by decide +kernel
theorem dX12_init_77 : decode cX12_init 77 = .ok (.newarray .int, 2) := by decide +kernel
theorem dX12_init_79 : decode cX12_init 79 = .ok (.putfield 38, 3) := by decide +kernel
theorem dX12_init_82 : decode cX12_init 82 = .ok (.aload_n 0, 1) := by decide +kernel
theorem dX12_init_83 : decode cX12_init 83 = .ok (.bipush 6, 2) := by decide +kernel
theorem dX12_init_85 : decode cX12_init 85 = .ok (.newarray .int, 2) := by decide +kernel
theorem dX12_init_87 : decode cX12_init 87 = .ok (.putfield 41, 3) := by decide +kernel
theorem dX12_init_90 : decode cX12_init 90 = .ok (.aload_n 0, 1) := by decide +kernel
theorem dX12_init_91 : decode cX12_init 91 = .ok (.bipush 24, 2) := by decide +kernel
theorem dX12_init_93 : decode cX12_init 93 = .ok (.newarray .int, 2) := by decide +kernel
theorem dX12_init_95 : decode cX12_init 95 = .ok (.putfield 44, 3) := by decide +kernel
theorem dX12_init_98 : decode cX12_init 98 = .ok (.aload_n 0, 1) := by decide +kernel
theorem dX12_init_99 : decode cX12_init 99 = .ok (.sipush 384, 3) := by decide +kernel
theorem dX12_init_102 : decode cX12_init 102 = .ok (.newarray .int, 2) := by decide +kernel
theorem dX12_init_104 : decode cX12_init 104 = .ok (.putfield 47, 3) := by decide +kernel
theorem dX12_init_107 : decode cX12_init 107 = .ok (.aload_n 0, 1) := by decide +kernel
theorem dX12_init_108 : decode cX12_init 108 = .ok (.bipush 64, 2) := by decide +kernel
theorem dX12_init_110 : decode cX12_init 110 = .ok (.newarray .int, 2) := by decide +kernel
theorem dX12_init_112 : decode cX12_init 112 = .ok (.putfield 50, 3) := by decide +kernel
theorem dX12_init_115 : decode cX12_init 115 = .ok (.aload_n 0, 1) := by decide +kernel
theorem dX12_init_116 : decode cX12_init 116 = .ok (.bipush 64, 2) := by decide +kernel
theorem dX12_init_118 : decode cX12_init 118 = .ok (.newarray .int, 2) := by decide +kernel
theorem dX12_init_120 : decode cX12_init 120 = .ok (.putfield 53, 3) := by decide +kernel
theorem dX12_init_123 : decode cX12_init 123 = .ok (.aload_n 0, 1) := by decide +kernel
theorem dX12_init_124 : decode cX12_init 124 = .ok (.bipush 31, 2) := by decide +kernel
theorem dX12_init_126 : decode cX12_init 126 = .ok (.newarray .int, 2) := by decide +kernel
theorem dX12_init_128 : decode cX12_init 128 = .ok (.putfield 56, 3) := by decide +kernel
theorem dX12_init_131 : decode cX12_init 131 = .ok (.aload_n 0, 1) := by decide +kernel
theorem dX12_init_132 : decode cX12_init 132 = .ok (.bipush 8, 2) := by decide +kernel
theorem dX12_init_134 : decode cX12_init 134 = .ok (.newarray .int, 2) := by decide +kernel
theorem dX12_init_136 : decode cX12_init 136 = .ok (.putfield 59, 3) := by decide +kernel
theorem dX12_init_139 : decode cX12_init 139 = .ok (.aload_n 0, 1) := by decide +kernel
theorem dX12_init_140 : decode cX12_init 140 = .ok (.iconst 4, 1) := by decide +kernel
theorem dX12_init_141 : decode cX12_init 141 = .ok (.newarray .int, 2) := by decide +kernel
theorem dX12_init_143 : decode cX12_init 143 = .ok (.putfield 62, 3) := by decide +kernel
theorem dX12_init_146 : decode cX12_init 146 = .ok (.aload_n 0, 1) := by decide +kernel
theorem dX12_init_147 : decode cX12_init 147 = .ok (.bipush 8, 2) := by decide +kernel
theorem dX12_init_149 : decode cX12_init 149 = .ok (.newarray .int, 2) := by decide +kernel
theorem dX12_init_151 : decode cX12_init 151 = .ok (.putfield 65, 3) := by decide +kernel
theorem dX12_init_154 : decode cX12_init 154 = .ok (.aload_n 0, 1) := by decide +kernel
theorem dX12_init_155 : decode cX12_init 155 = .ok (.bipush 8, 2) := by decide +kernel
theorem dX12_init_157 : decode cX12_init 157 = .ok (.newarray .int, 2) := by decide +kernel
theorem dX12_init_159 : decode cX12_init 159 = .ok (.putfield 68, 3) := by decide +kernel
theorem dX12_init_162 : decode cX12_init 162 = .ok (.aload_n 0, 1) := by decide +kernel
theorem dX12_init_163 : decode cX12_init 163 = .ok (.bipush 8, 2) := by decide +kernel
theorem dX12_init_165 : decode cX12_init 165 = .ok (.newarray .int, 2) := by decide +kernel
theorem dX12_init_167 : decode cX12_init 167 = .ok (.putfield 71, 3) := by decide +kernel
theorem dX12_init_170 : decode cX12_init 170 = .ok (.aload_n 0, 1) := by decide +kernel
theorem dX12_init_171 : decode cX12_init 171 = .ok (.getfield 13, 3) := by decide +kernel
theorem dX12_init_174 : decode cX12_init 174 = .ok (.iconst 1, 1) := by decide +kernel
theorem dX12_init_175 : decode cX12_init 175 = .ok (.bipush 6, 2) := by decide +kernel
theorem dX12_init_177 : decode cX12_init 177 = .ok (.iastore, 1) := by decide +kernel
theorem dX12_init_178 : decode cX12_init 178 = .ok (.aload_n 0, 1) := by decide +kernel
theorem dX12_init_179 : decode cX12_init 179 = .ok (.iconst 0, 1) := by decide +kernel
theorem dX12_init_180 : decode cX12_init 180 = .ok (.iconst 1, 1) := by decide +kernel
theorem dX12_init_181 : decode cX12_init 181 = .ok (.iconst 3, 1) := by decide +kernel
theorem dX12_init_182 : decode cX12_init 182 = .ok (.invokevirtual 74, 3) := by decide +kernel
theorem dX12_init_185 : decode cX12_init 185 = .ok (.aload_n 0, 1) := by decide +kernel
theorem dX12_init_186 : decode cX12_init 186 = .ok (.iconst 1, 1) := by decide +kernel
theorem dX12_init_187 : decode cX12_init 187 = .ok (.iconst 2, 1) := by decide +kernel
theorem dX12_init_188 : decode cX12_init 188 = .ok (.iconst 4, 1) := by decide +kernel
theorem dX12_init_189 : decode cX12_init 189 = .ok (.invokevirtual 74, 3) := by decide +kernel
theorem dX12_init_192 : decode cX12_init 192 = .ok (.aload_n 0, 1) := by decide +kernel
theorem dX12_init_193 : decode cX12_init 193 = .ok (.iconst 2, 1) := by decide +kernel
theorem dX12_init_194 : decode cX12_init 194 = .ok (.iconst 3, 1) := by decide +kernel
theorem dX12_init_195 : decode cX12_init 195 = .ok (.iconst 2, 1) := by decide +kernel
theorem dX12_init_196 : decode cX12_init 196 = .ok (.invokevirtual 74, 3) := by decide +kernel
theorem dX12_init_199 : decode cX12_init 199 = .ok (.aload_n 0, 1) := by decide +kernel
theorem dX12_init_200 : decode cX12_init 200 = .ok (.iconst 0, 1) := by decide +kernel
theorem dX12_init_201 : decode cX12_init 201 = .ok (.iconst 4, 1) := by decide +kernel
theorem dX12_init_202 : decode cX12_init 202 = .ok (.iconst 5, 1) := by decide +kernel
theorem dX12_init_203 : decode cX12_init 203 = .ok (.invokevirtual 74, 3) := by decide +kernel
theorem dX12_init_206 : decode cX12_init 206 = .ok (.aload_n 0, 1) := by decide +kernel
theorem dX12_init_207 : decode cX12_init 207 = .ok (.iconst 4, 1) := by decide +kernel
theorem dX12_init_208 : decode cX12_init 208 = .ok (.iconst 3, 1) := by decide +kernel
theorem dX12_init_209 : decode cX12_init 209 = .ok (.bipush 6, 2) := by decide +kernel
theorem dX12_init_211 : decode cX12_init 211 = .ok (.invokevirtual 74, 3) := by decide +kernel
theorem dX12_init_214 : decode cX12_init 214 = .ok (.aload_n 0, 1) := by decide +kernel
theorem dX12_init_215 : decode cX12_init 215 = .ok (.iconst 1, 1) := by decide +kernel
theorem dX12_init_216 : decode cX12_init 216 = .ok (.iconst 4, 1) := by decide +kernel
theorem dX12_init_217 : decode cX12_init 217 = .ok (.iconst 1, 1) := by decide +kernel
theorem dX12_init_218 : decode cX12_init 218 = .ok (.invokevirtual 74, 3) := by decide +kernel
theorem dX12_init_221 : decode cX12_init 221 = .ok (.aload_n 0, 1) := by decide +kernel
theorem dX12_init_222 : decode cX12_init 222 = .ok (.iconst 3, 1) := by decide +kernel
theorem dX12_init_223 : decode cX12_init 223 = .ok (.iconst 5, 1) := by decide +kernel
theorem dX12_init_224 : decode cX12_init 224 = .ok (.iconst 2, 1) := by decide +kernel
theorem dX12_init_225 : decode cX12_init 225 = .ok (.invokevirtual 74, 3) := by decide +kernel
theorem dX12_init_228 : decode cX12_init 228 = .ok (.aload_n 0, 1) := by decide +kernel
theorem dX12_init_229 : decode cX12_init 229 = .ok (.iconst 1, 1) := by decide +kernel
theorem dX12_init_230 : decode cX12_init 230 = .ok (.iconst 5, 1) := by decide +kernel
theorem dX12_init_231 : decode cX12_init 231 = .ok (.iconst 4, 1) := by decide +kernel
theorem dX12_init_232 : decode cX12_init 232 = .ok (.invokevirtual 78, 3) := by decide +kernel
theorem dX12_init_235 : decode cX12_init 235 = .ok (.aload_n 0, 1) := by decide +kernel
theorem dX12_init_236 : decode cX12_init 236 = .ok (.iconst 4, 1) := by decide +kernel
theorem dX12_init_237 : decode cX12_init 237 = .ok (.iconst 5, 1) := by decide +kernel
theorem dX12_init_238 : decode cX12_init 238 = .ok (.iconst 3, 1) := by decide +kernel
theorem dX12_init_239 : decode cX12_init 239 = .ok (.invokevirtual 78, 3) := by decide +kernel
theorem dX12_init_242 : decode cX12_init 242 = .ok (.aload_n 0, 1) := by decide +kernel
theorem dX12_init_243 : decode cX12_init 243 = .ok (.iconst 2, 1) := by decide +kernel
theorem dX12_init_244 : decode cX12_init 244 = .ok (.iconst 5, 1) := by decide +kernel
theorem dX12_init_245 : decode cX12_init 245 = .ok (.iconst 1, 1) := by decide +kernel
theorem dX12_init_246 : decode cX12_init 246 = .ok (.invokevirtual 78, 3) := by decide +kernel
theorem dX12_init_249 : decode cX12_init 249 = .ok (.aload_n 0, 1) := by decide +kernel
theorem dX12_init_250 : decode cX12_init 250 = .ok (.iconst 0, 1) := by decide +kernel
theorem dX12_init_251 : decode cX12_init 251 = .ok (.iconst 0, 1) := by decide +kernel
theorem dX12_init_252 : decode cX12_init 252 = .ok (.iconst 5, 1) := by decide +kernel
theorem dX12_init_253 : decode cX12_init 253 = .ok (.invokevirtual 81, 3) := by decide +kernel
theorem dX12_init_256 : decode cX12_init 256 = .ok (.aload_n 0, 1) := by decide +kernel
theorem dX12_init_257 : decode cX12_init 257 = .ok (.iconst 1, 1) := by decide +kernel
theorem dX12_init_258 : decode cX12_init 258 = .ok (.iconst 0, 1) := by decide +kernel
theorem dX12_init_259 : decode cX12_init 259 = .ok (.iconst 5, 1) := by decide +kernel
theorem dX12_init_260 : decode cX12_init 260 = .ok (.invokevirtual 81, 3) := by decide +kernel
theorem dX12_init_263 : decode cX12_init 263 = .ok (.aload_n 0, 1) := by decide +kernel
theorem dX12_init_264 : decode cX12_init 264 = .ok (.iconst 2, 1) := by decide +kernel
theorem dX12_init_265 : decode cX12_init 265 = .ok (.iconst 2, 1) := by decide +kernel
theorem dX12_init_266 : decode cX12_init 266 = .ok (.iconst 0, 1) := by decide +kernel
theorem dX12_init_267 : decode cX12_init 267 = .ok (.invokevirtual 81, 3) := by decide +kernel
theorem dX12_init_270 : decode cX12_init 270 = .ok (.aload_n 0, 1) := by decide +kernel
theorem dX12_init_271 : decode cX12_init 271 = .ok (.iconst 3, 1) := by decide +kernel
theorem dX12_init_272 : decode cX12_init 272 = .ok (.iconst 0, 1) := by decide +kernel
theorem dX12_init_273 : decode cX12_init 273 = .ok (.iconst 5, 1) := by decide +kernel
theorem dX12_init_274 : decode cX12_init 274 = .ok (.invokevirtual 81, 3) := by decide +kernel
theorem dX12_init_277 : decode cX12_init 277 = .ok (.aload_n 0, 1) := by decide +kernel
theorem dX12_init_278 : decode cX12_init 278 = .ok (.iconst 2, 1) := by decide +kernel
theorem dX12_init_279 : decode cX12_init 279 = .ok (.iconst 3, 1) := by decide +kernel
theorem dX12_init_280 : decode cX12_init 280 = .ok (.iconst 1, 1) := by decide +kernel
theorem dX12_init_281 : decode cX12_init 281 = .ok (.invokevirtual 84, 3) := by decide +kernel
theorem dX12_init_284 : decode cX12_init 284 = .ok (.aload_n 0, 1) := by decide +kernel
theorem dX12_init_285 : decode cX12_init 285 = .ok (.invokevirtual 87, 3) := by decide +kernel
theorem dX12_init_288 : decode cX12_init 288 = .ok (.return_, 1) := by decide +kernel
theorem dX12_firstStreet_0 : decode cX12_firstStreet 0 = .ok (.bipush 12, 2) := by decide +kernel
theorem dX12_firstStreet_2 : decode cX12_firstStreet 2 = .ok (.aload_n 0, 1) := by decide +kernel
theorem dX12_firstStreet_3 : decode cX12_firstStreet 3 = .ok (.getfield 17, 3) := by decide +kernel
theorem dX12_firstStreet_6 : decode cX12_firstStreet 6 = .ok (.iconst 1, 1) := by decide +kernel
theorem dX12_firstStreet_7 : decode cX12_firstStreet 7 = .ok (.iaload, 1) := by decide +kernel
theorem dX12_firstStreet_8 : decode cX12_firstStreet 8 = .ok (.iadd, 1) := by decide +kernel
theorem dX12_firstStreet_9 : decode cX12_firstStreet 9 = .ok (.istore 4, 2) := by decide +kernel
theorem dX12_firstStreet_11 : decode cX12_firstStreet 11 = .ok (.aload_n 0, 1) := by decide +kernel
theorem dX12_firstStreet_12 : decode cX12_firstStreet 12 = .ok (.getfield 20, 3) := by decide +kernel
theorem dX12_firstStreet_15 : decode cX12_firstStreet 15 = .ok (.iload 4, 2) := by decide +kernel
theorem dX12_firstStreet_17 : decode cX12_firstStreet 17 = .ok (.iload_n 1, 1) := by decide +kernel
theorem dX12_firstStreet_18 : decode cX12_firstStreet 18 = .ok (.iastore, 1) := by decide +kernel
theorem dX12_firstStreet_19 : decode cX12_firstStreet 19 = .ok (.aload_n 0, 1) := by decide +kernel
theorem dX12_firstStreet_20 : decode cX12_firstStreet 20 = .ok (.getfield 23, 3) := by decide +kernel
theorem dX12_firstStreet_23 : decode cX12_firstStreet 23 = .ok (.iload 4, 2) := by decide +kernel
theorem dX12_firstStreet_25 : decode cX12_firstStreet 25 = .ok (.iload_n 2, 1) := by decide +kernel
theorem dX12_firstStreet_26 : decode cX12_firstStreet 26 = .ok (.iastore, 1) := by decide +kernel
theorem dX12_firstStreet_27 : decode cX12_firstStreet 27 = .ok (.aload_n 0, 1) := by decide +kernel
theorem dX12_firstStreet_28 : decode cX12_firstStreet 28 = .ok (.getfield 26, 3) := by decide +kernel
theorem dX12_firstStreet_31 : decode cX12_firstStreet 31 = .ok (.iload 4, 2) := by decide +kernel
theorem dX12_firstStreet_33 : decode cX12_firstStreet 33 = .ok (.iload_n 3, 1) := by decide +kernel
theorem dX12_firstStreet_34 : decode cX12_firstStreet 34 = .ok (.iastore, 1) := by decide +kernel
theorem dX12_firstStreet_35 : decode cX12_firstStreet 35 = .ok (.aload_n 0, 1) := by decide +kernel
theorem dX12_firstStreet_36 : decode cX12_firstStreet 36 = .ok (.getfield 17, 3) := by decide +kernel
theorem dX12_firstStreet_39 : decode cX12_firstStreet 39 = .ok (.iconst 1, 1) := by decide +kernel
theorem dX12_firstStreet_40 : decode cX12_firstStreet 40 = .ok (.dup2, 1) := by decide +kernel
theorem dX12_firstStreet_41 : decode cX12_firstStreet 41 = .ok (.iaload, 1) := by decide +kernel
theorem dX12_firstStreet_42 : decode cX12_firstStreet 42 = .ok (.iconst 1, 1) := by decide +kernel
theorem dX12_firstStreet_43 : decode cX12_firstStreet 43 = .ok (.iadd, 1) := by decide +kernel
theorem dX12_firstStreet_44 : decode cX12_firstStreet 44 = .ok (.iastore, 1) := by decide +kernel
theorem dX12_firstStreet_45 : decode cX12_firstStreet 45 = .ok (.return_, 1) := by decide +kernel
theorem dX12_firstSign_0 : decode cX12_firstSign 0 = .ok (.iconst 3, 1) := by decide +kernel
theorem dX12_firstSign_1 : decode cX12_firstSign 1 = .ok (.aload_n 0, 1) := by decide +kernel
theorem dX12_firstSign_2 : decode cX12_firstSign 2 = .ok (.getfield 90, 3) := by decide +kernel
theorem dX12_firstSign_5 : decode cX12_firstSign 5 = .ok (.imul, 1) := by decide +kernel
theorem dX12_firstSign_6 : decode cX12_firstSign 6 = .ok (.istore 4, 2) := by decide +kernel
theorem dX12_firstSign_8 : decode cX12_firstSign 8 = .ok (.aload_n 0, 1) := by decide +kernel
theorem dX12_firstSign_9 : decode cX12_firstSign 9 = .ok (.getfield 44, 3) := by decide +kernel
theorem dX12_firstSign_12 : decode cX12_firstSign 12 = .ok (.iload 4, 2) := by decide +kernel
theorem dX12_firstSign_14 : decode cX12_firstSign 14 = .ok (.iload_n 1, 1) := by decide +kernel
theorem dX12_firstSign_15 : decode cX12_firstSign 15 = .ok (.iastore, 1) := by decide +kernel
theorem dX12_firstSign_16 : decode cX12_firstSign 16 = .ok (.aload_n 0, 1) := by decide +kernel
theorem dX12_firstSign_17 : decode cX12_firstSign 17 = .ok (.getfield 44, 3) := by decide +kernel
theorem dX12_firstSign_20 : decode cX12_firstSign 20 = .ok (.iload 4, 2) := by decide +kernel
theorem dX12_firstSign_22 : decode cX12_firstSign 22 = .ok (.iconst 1, 1) := by decide +kernel
theorem dX12_firstSign_23 : decode cX12_firstSign 23 = .ok (.iadd, 1) := by decide +kernel
theorem dX12_firstSign_24 : decode cX12_firstSign 24 = .ok (.iload_n 2, 1) := by decide +kernel
theorem dX12_firstSign_25 : decode cX12_firstSign 25 = .ok (.iastore, 1) := by decide +kernel
theorem dX12_firstSign_26 : decode cX12_firstSign 26 = .ok (.aload_n 0, 1) := by decide +kernel
theorem dX12_firstSign_27 : decode cX12_firstSign 27 = .ok (.getfield 44, 3) := by decide +kernel
theorem dX12_firstSign_30 : decode cX12_firstSign 30 = .ok (.iload 4, 2) := by decide +kernel
theorem dX12_firstSign_32 : decode cX12_firstSign 32 = .ok (.iconst 2, 1) := by decide +kernel
theorem dX12_firstSign_33 : decode cX12_firstSign 33 = .ok (.iadd, 1) := by decide +kernel
theorem dX12_firstSign_34 : decode cX12_firstSign 34 = .ok (.iload_n 3, 1) := by decide +kernel
theorem dX12_firstSign_35 : decode cX12_firstSign 35 = .ok (.iastore, 1) := by decide +kernel
theorem dX12_firstSign_36 : decode cX12_firstSign 36 = .ok (.aload_n 0, 1) := by decide +kernel
theorem dX12_firstSign_37 : decode cX12_firstSign 37 = .ok (.dup, 1) := by decide +kernel
theorem dX12_firstSign_38 : decode cX12_firstSign 38 = .ok (.getfield 90, 3) := by decide +kernel
theorem dX12_firstSign_41 : decode cX12_firstSign 41 = .ok (.iconst 1, 1) := by decide +kernel
theorem dX12_firstSign_42 : decode cX12_firstSign 42 = .ok (.iadd, 1) := by decide +kernel
theorem dX12_firstSign_43 : decode cX12_firstSign 43 = .ok (.putfield 90, 3) := by decide +kernel
theorem dX12_firstSign_46 : decode cX12_firstSign 46 = .ok (.return_, 1) := by decide +kernel
theorem dX12_firstWalker_0 : decode cX12_firstWalker 0 = .ok (.iconst 4, 1) := by decide +kernel
theorem dX12_firstWalker_1 : decode cX12_firstWalker 1 = .ok (.aload_n 0, 1) := by decide +kernel
theorem dX12_firstWalker_2 : decode cX12_firstWalker 2 = .ok (.getfield 29, 3) := by decide +kernel
theorem dX12_firstWalker_5 : decode cX12_firstWalker 5 = .ok (.iconst 1, 1) := by decide +kernel
theorem dX12_firstWalker_6 : decode cX12_firstWalker 6 = .ok (.iaload, 1) := by decide +kernel
theorem dX12_firstWalker_7 : decode cX12_firstWalker 7 = .ok (.iadd, 1) := by decide +kernel
theorem dX12_firstWalker_8 : decode cX12_firstWalker 8 = .ok (.istore 4, 2) := by decide +kernel
theorem dX12_firstWalker_10 : decode cX12_firstWalker 10 = .ok (.aload_n 0, 1) := by decide +kernel
theorem dX12_firstWalker_11 : decode cX12_firstWalker 11 = .ok (.getfield 32, 3) := by decide +kernel
theorem dX12_firstWalker_14 : decode cX12_firstWalker 14 = .ok (.iload 4, 2) := by decide +kernel
theorem dX12_firstWalker_16 : decode cX12_firstWalker 16 = .ok (.iload_n 1, 1) := by decide +kernel
theorem dX12_firstWalker_17 : decode cX12_firstWalker 17 = .ok (.iastore, 1) := by decide +kernel
theorem dX12_firstWalker_18 : decode cX12_firstWalker 18 = .ok (.aload_n 0, 1) := by decide +kernel
theorem dX12_firstWalker_19 : decode cX12_firstWalker 19 = .ok (.getfield 35, 3) := by decide +kernel
theorem dX12_firstWalker_22 : decode cX12_firstWalker 22 = .ok (.iload 4, 2) := by decide +kernel
theorem dX12_firstWalker_24 : decode cX12_firstWalker 24 = .ok (.iload_n 2, 1) := by decide +kernel
theorem dX12_firstWalker_25 : decode cX12_firstWalker 25 = .ok (.iastore, 1) := by decide +kernel
theorem dX12_firstWalker_26 : decode cX12_firstWalker 26 = .ok (.aload_n 0, 1) := by decide +kernel
theorem dX12_firstWalker_27 : decode cX12_firstWalker 27 = .ok (.getfield 38, 3) := by decide +kernel
theorem dX12_firstWalker_30 : decode cX12_firstWalker 30 = .ok (.iload 4, 2) := by decide +kernel
theorem dX12_firstWalker_32 : decode cX12_firstWalker 32 = .ok (.iload_n 3, 1) := by decide +kernel
theorem dX12_firstWalker_33 : decode cX12_firstWalker 33 = .ok (.iastore, 1) := by decide +kernel
theorem dX12_firstWalker_34 : decode cX12_firstWalker 34 = .ok (.aload_n 0, 1) := by decide +kernel
theorem dX12_firstWalker_35 : decode cX12_firstWalker 35 = .ok (.getfield 29, 3) := by decide +kernel
theorem dX12_firstWalker_38 : decode cX12_firstWalker 38 = .ok (.iconst 1, 1) := by decide +kernel
theorem dX12_firstWalker_39 : decode cX12_firstWalker 39 = .ok (.dup2, 1) := by decide +kernel
theorem dX12_firstWalker_40 : decode cX12_firstWalker 40 = .ok (.iaload, 1) := by decide +kernel
theorem dX12_firstWalker_41 : decode cX12_firstWalker 41 = .ok (.iconst 1, 1) := by decide +kernel
theorem dX12_firstWalker_42 : decode cX12_firstWalker 42 = .ok (.iadd, 1) := by decide +kernel
theorem dX12_firstWalker_43 : decode cX12_firstWalker 43 = .ok (.iastore, 1) := by decide +kernel
theorem dX12_firstWalker_44 : decode cX12_firstWalker 44 = .ok (.return_, 1) := by decide +kernel
theorem dX12_firstRates_0 : decode cX12_firstRates 0 = .ok (.aload_n 0, 1) := by decide +kernel
theorem dX12_firstRates_1 : decode cX12_firstRates 1 = .ok (.getfield 41, 3) := by decide +kernel
theorem dX12_firstRates_4 : decode cX12_firstRates 4 = .ok (.iconst 3, 1) := by decide +kernel
theorem dX12_firstRates_5 : decode cX12_firstRates 5 = .ok (.iload_n 1, 1) := by decide +kernel
theorem dX12_firstRates_6 : decode cX12_firstRates 6 = .ok (.iastore, 1) := by decide +kernel
theorem dX12_firstRates_7 : decode cX12_firstRates 7 = .ok (.aload_n 0, 1) := by decide +kernel
theorem dX12_firstRates_8 : decode cX12_firstRates 8 = .ok (.getfield 41, 3) := by decide +kernel
theorem dX12_firstRates_11 : decode cX12_firstRates 11 = .ok (.iconst 4, 1) := by decide +kernel
theorem dX12_firstRates_12 : decode cX12_firstRates 12 = .ok (.iload_n 2, 1) := by decide +kernel
theorem dX12_firstRates_13 : decode cX12_firstRates 13 = .ok (.iastore, 1) := by decide +kernel
theorem dX12_firstRates_14 : decode cX12_firstRates 14 = .ok (.aload_n 0, 1) := by decide +kernel
theorem dX12_firstRates_15 : decode cX12_firstRates 15 = .ok (.getfield 41, 3) := by decide +kernel
theorem dX12_firstRates_18 : decode cX12_firstRates 18 = .ok (.iconst 5, 1) := by decide +kernel
theorem dX12_firstRates_19 : decode cX12_firstRates 19 = .ok (.iload_n 3, 1) := by decide +kernel
theorem dX12_firstRates_20 : decode cX12_firstRates 20 = .ok (.iastore, 1) := by decide +kernel
theorem dX12_firstRates_21 : decode cX12_firstRates 21 = .ok (.return_, 1) := by decide +kernel
theorem dX12_in_0 : decode cX12_in 0 = .ok (.iload_n 0, 1) := by decide +kernel
theorem dX12_in_1 : decode cX12_in 1 = .ok (.iload_n 1, 1) := by decide +kernel
theorem dX12_in_2 : decode cX12_in 2 = .ok (.if_icmp .lt 12, 3) := by decide +kernel
theorem dX12_in_5 : decode cX12_in 5 = .ok (.iload_n 0, 1) := by decide +kernel
theorem dX12_in_6 : decode cX12_in 6 = .ok (.iload_n 2, 1) := by decide +kernel
theorem dX12_in_7 : decode cX12_in 7 = .ok (.if_icmp .gt 7, 3) := by decide +kernel
theorem dX12_in_10 : decode cX12_in 10 = .ok (.iconst 1, 1) := by decide +kernel
theorem dX12_in_11 : decode cX12_in 11 = .ok (.goto 4, 3) := by decide +kernel
theorem dX12_in_14 : decode cX12_in 14 = .ok (.iconst 0, 1) := by decide +kernel
theorem dX12_in_15 : decode cX12_in 15 = .ok (.ireturn, 1) := by decide +kernel
theorem dX12_write_0 : decode cX12_write 0 = .ok (.iload_n 1, 1) := by decide +kernel
theorem dX12_write_1 : decode cX12_write 1 = .ok (.bipush 32, 2) := by decide +kernel
theorem dX12_write_3 : decode cX12_write 3 = .ok (.bipush 126, 2) := by decide +kernel
theorem dX12_write_5 : decode cX12_write 5 = .ok (.invokestatic 94, 3) := by decide +kernel
theorem dX12_write_8 : decode cX12_write 8 = .ok (.ifCond .ne 5, 3) := by decide +kernel
theorem dX12_write_11 : decode cX12_write 11 = .ok (.iconst (-1), 1) := by decide +kernel
theorem dX12_write_12 : decode cX12_write 12 = .ok (.ireturn, 1) := by decide +kernel
theorem dX12_write_13 : decode cX12_write 13 = .ok (.aload_n 0, 1) := by decide +kernel
theorem dX12_write_14 : decode cX12_write 14 = .ok (.getfield 98, 3) := by decide +kernel
theorem dX12_write_17 : decode cX12_write 17 = .ok (.sipush 200, 3) := by decide +kernel
theorem dX12_write_20 : decode cX12_write 20 = .ok (.if_icmp .ne 6, 3) := by decide +kernel
theorem dX12_write_23 : decode cX12_write 23 = .ok (.bipush (-3), 2) := by decide +kernel
theorem dX12_write_25 : decode cX12_write 25 = .ok (.ireturn, 1) := by decide +kernel
theorem dX12_write_26 : decode cX12_write 26 = .ok (.aload_n 0, 1) := by decide +kernel
theorem dX12_write_27 : decode cX12_write 27 = .ok (.getfield 7, 3) := by decide +kernel
theorem dX12_write_30 : decode cX12_write 30 = .ok (.aload_n 0, 1) := by decide +kernel
theorem dX12_write_31 : decode cX12_write 31 = .ok (.getfield 98, 3) := by decide +kernel
theorem dX12_write_34 : decode cX12_write 34 = .ok (.iload_n 1, 1) := by decide +kernel
theorem dX12_write_35 : decode cX12_write 35 = .ok (.i2b, 1) := by decide +kernel
theorem dX12_write_36 : decode cX12_write 36 = .ok (.bastore, 1) := by decide +kernel
theorem dX12_write_37 : decode cX12_write 37 = .ok (.aload_n 0, 1) := by decide +kernel
theorem dX12_write_38 : decode cX12_write 38 = .ok (.dup, 1) := by decide +kernel
theorem dX12_write_39 : decode cX12_write 39 = .ok (.getfield 98, 3) := by decide +kernel
theorem dX12_write_42 : decode cX12_write 42 = .ok (.iconst 1, 1) := by decide +kernel
theorem dX12_write_43 : decode cX12_write 43 = .ok (.iadd, 1) := by decide +kernel
theorem dX12_write_44 : decode cX12_write 44 = .ok (.putfield 98, 3) := by decide +kernel
theorem dX12_write_47 : decode cX12_write 47 = .ok (.aload_n 0, 1) := by decide +kernel
theorem dX12_write_48 : decode cX12_write 48 = .ok (.getfield 98, 3) := by decide +kernel
theorem dX12_write_51 : decode cX12_write 51 = .ok (.ireturn, 1) := by decide +kernel
theorem dX12_wipe_0 : decode cX12_wipe 0 = .ok (.aload_n 0, 1) := by decide +kernel
theorem dX12_wipe_1 : decode cX12_wipe 1 = .ok (.getfield 98, 3) := by decide +kernel
theorem dX12_wipe_4 : decode cX12_wipe 4 = .ok (.istore_n 1, 1) := by decide +kernel
theorem dX12_wipe_5 : decode cX12_wipe 5 = .ok (.aload_n 0, 1) := by decide +kernel
theorem dX12_wipe_6 : decode cX12_wipe 6 = .ok (.iconst 0, 1) := by decide +kernel
theorem dX12_wipe_7 : decode cX12_wipe 7 = .ok (.putfield 98, 3) := by decide +kernel
theorem dX12_wipe_10 : decode cX12_wipe 10 = .ok (.iload_n 1, 1) := by decide +kernel
theorem dX12_wipe_11 : decode cX12_wipe 11 = .ok (.ireturn, 1) := by decide +kernel
theorem dX12_here_0 : decode cX12_here 0 = .ok (.aload_n 0, 1) := by decide +kernel
theorem dX12_here_1 : decode cX12_here 1 = .ok (.getfield 101, 3) := by decide +kernel
theorem dX12_here_4 : decode cX12_here 4 = .ok (.aload_n 0, 1) := by decide +kernel
theorem dX12_here_5 : decode cX12_here 5 = .ok (.getfield 98, 3) := by decide +kernel
theorem dX12_here_8 : decode cX12_here 8 = .ok (.if_icmp .ge 15, 3) := by decide +kernel
theorem dX12_here_11 : decode cX12_here 11 = .ok (.aload_n 0, 1) := by decide +kernel
theorem dX12_here_12 : decode cX12_here 12 = .ok (.getfield 7, 3) := by decide +kernel
theorem dX12_here_15 : decode cX12_here 15 = .ok (.aload_n 0, 1) := by decide +kernel
theorem dX12_here_16 : decode cX12_here 16 = .ok (.getfield 101, 3) := by decide +kernel
theorem dX12_here_19 : decode cX12_here 19 = .ok (.baload, 1) := by decide +kernel
theorem dX12_here_20 : decode cX12_here 20 = .ok (.goto 4, 3) := by decide +kernel
theorem dX12_here_23 : decode cX12_here 23 = .ok (.iconst (-1), 1) := by decide +kernel
theorem dX12_here_24 : decode cX12_here 24 = .ok (.ireturn, 1) := by decide +kernel
theorem dX12_number_0 : decode cX12_number 0 = .ok (.iconst 0, 1) := by decide +kernel
theorem dX12_number_1 : decode cX12_number 1 = .ok (.istore 4, 2) := by decide +kernel
theorem dX12_number_3 : decode cX12_number 3 = .ok (.iconst 0, 1) := by decide +kernel
theorem dX12_number_4 : decode cX12_number 4 = .ok (.istore 5, 2) := by decide +kernel
theorem dX12_number_6 : decode cX12_number 6 = .ok (.iload 5, 2) := by decide +kernel
theorem dX12_number_8 : decode cX12_number 8 = .ok (.iconst 2, 1) := by decide +kernel
theorem dX12_number_9 : decode cX12_number 9 = .ok (.if_icmp .ge 48, 3) := by decide +kernel
theorem dX12_number_12 : decode cX12_number 12 = .ok (.aload_n 0, 1) := by decide +kernel
theorem dX12_number_13 : decode cX12_number 13 = .ok (.invokevirtual 104, 3) := by decide +kernel
theorem dX12_number_16 : decode cX12_number 16 = .ok (.bipush 48, 2) := by decide +kernel
theorem dX12_number_18 : decode cX12_number 18 = .ok (.bipush 57, 2) := by decide +kernel
theorem dX12_number_20 : decode cX12_number 20 = .ok (.invokestatic 94, 3) := by decide +kernel
theorem dX12_number_23 : decode cX12_number 23 = .ok (.ifCond .eq 34, 3) := by decide +kernel
theorem dX12_number_26 : decode cX12_number 26 = .ok (.bipush 10, 2) := by decide +kernel
theorem dX12_number_28 : decode cX12_number 28 = .ok (.iload 4, 2) := by decide +kernel
theorem dX12_number_30 : decode cX12_number 30 = .ok (.imul, 1) := by decide +kernel
theorem dX12_number_31 : decode cX12_number 31 = .ok (.aload_n 0, 1) := by decide +kernel
theorem dX12_number_32 : decode cX12_number 32 = .ok (.invokevirtual 104, 3) := by decide +kernel
theorem dX12_number_35 : decode cX12_number 35 = .ok (.iadd, 1) := by decide +kernel
theorem dX12_number_36 : decode cX12_number 36 = .ok (.bipush 48, 2) := by decide +kernel
theorem dX12_number_38 : decode cX12_number 38 = .ok (.isub, 1) := by decide +kernel
theorem dX12_number_39 : decode cX12_number 39 = .ok (.istore 4, 2) := by decide +kernel
theorem dX12_number_41 : decode cX12_number 41 = .ok (.aload_n 0, 1) := by decide +kernel
theorem dX12_number_42 : decode cX12_number 42 = .ok (.dup, 1) := by decide +kernel
theorem dX12_number_43 : decode cX12_number 43 = .ok (.getfield 101, 3) := by decide +kernel
theorem dX12_number_46 : decode cX12_number 46 = .ok (.iconst 1, 1) := by decide +kernel
theorem dX12_number_47 : decode cX12_number 47 = .ok (.iadd, 1) := by decide +kernel
theorem dX12_number_48 : decode cX12_number 48 = .ok (.putfield 101, 3) := by decide +kernel
theorem dX12_number_51 : decode cX12_number 51 = .ok (.iinc 5 1, 3) := by decide +kernel
theorem dX12_number_54 : decode cX12_number 54 = .ok (.goto (-48), 3) := by decide +kernel
theorem dX12_number_57 : decode cX12_number 57 = .ok (.aload_n 0, 1) := by decide +kernel
theorem dX12_number_58 : decode cX12_number 58 = .ok (.aload_n 0, 1) := by decide +kernel
theorem dX12_number_59 : decode cX12_number 59 = .ok (.getfield 108, 3) := by decide +kernel
theorem dX12_number_62 : decode cX12_number 62 = .ok (.ifCond .eq 30, 3) := by decide +kernel
theorem dX12_number_65 : decode cX12_number 65 = .ok (.iload 5, 2) := by decide +kernel
theorem dX12_number_67 : decode cX12_number 67 = .ok (.ifCond .le 25, 3) := by decide +kernel
theorem dX12_number_70 : decode cX12_number 70 = .ok (.iload 4, 2) := by decide +kernel
theorem dX12_number_72 : decode cX12_number 72 = .ok (.iload_n 1, 1) := by decide +kernel
theorem dX12_number_73 : decode cX12_number 73 = .ok (.iload_n 2, 1) := by decide +kernel
theorem dX12_number_74 : decode cX12_number 74 = .ok (.invokestatic 94, 3) := by decide +kernel
theorem dX12_number_77 : decode cX12_number 77 = .ok (.ifCond .eq 15, 3) := by decide +kernel
theorem dX12_number_80 : decode cX12_number 80 = .ok (.aload_n 0, 1) := by decide +kernel
theorem dX12_number_81 : decode cX12_number 81 = .ok (.invokevirtual 104, 3) := by decide +kernel
theorem dX12_number_84 : decode cX12_number 84 = .ok (.iload_n 3, 1) := by decide +kernel
theorem dX12_number_85 : decode cX12_number 85 = .ok (.if_icmp .ne 7, 3) := by decide +kernel
theorem dX12_number_88 : decode cX12_number 88 = .ok (.iconst 1, 1) := by decide +kernel
theorem dX12_number_89 : decode cX12_number 89 = .ok (.goto 4, 3) := by decide +kernel
theorem dX12_number_92 : decode cX12_number 92 = .ok (.iconst 0, 1) := by decide +kernel
theorem dX12_number_93 : decode cX12_number 93 = .ok (.putfield 108, 3) := by decide +kernel
theorem dX12_number_96 : decode cX12_number 96 = .ok (.aload_n 0, 1) := by decide +kernel
theorem dX12_number_97 : decode cX12_number 97 = .ok (.dup, 1) := by decide +kernel
theorem dX12_number_98 : decode cX12_number 98 = .ok (.getfield 101, 3) := by decide +kernel
theorem dX12_number_101 : decode cX12_number 101 = .ok (.iconst 1, 1) := by decide +kernel
theorem dX12_number_102 : decode cX12_number 102 = .ok (.iadd, 1) := by decide +kernel
theorem dX12_number_103 : decode cX12_number 103 = .ok (.putfield 101, 3) := by decide +kernel
theorem dX12_number_106 : decode cX12_number 106 = .ok (.iload 4, 2) := by decide +kernel
theorem dX12_number_108 : decode cX12_number 108 = .ok (.ireturn, 1) := by decide +kernel
theorem dX12_corner_0 : decode cX12_corner 0 = .ok (.aload_n 0, 1) := by decide +kernel
theorem dX12_corner_1 : decode cX12_corner 1 = .ok (.iconst 0, 1) := by decide +kernel
theorem dX12_corner_2 : decode cX12_corner 2 = .ok (.aload_n 0, 1) := by decide +kernel
theorem dX12_corner_3 : decode cX12_corner 3 = .ok (.getfield 13, 3) := by decide +kernel
theorem dX12_corner_6 : decode cX12_corner 6 = .ok (.iconst 1, 1) := by decide +kernel
theorem dX12_corner_7 : decode cX12_corner 7 = .ok (.iaload, 1) := by decide +kernel
theorem dX12_corner_8 : decode cX12_corner 8 = .ok (.iconst 1, 1) := by decide +kernel
theorem dX12_corner_9 : decode cX12_corner 9 = .ok (.isub, 1) := by decide +kernel
theorem dX12_corner_10 : decode cX12_corner 10 = .ok (.iload_n 1, 1) := by decide +kernel
theorem dX12_corner_11 : decode cX12_corner 11 = .ok (.invokevirtual 112, 3) := by decide +kernel
theorem dX12_corner_14 : decode cX12_corner 14 = .ok (.ireturn, 1) := by decide +kernel
theorem dX12_readStreet_0 : decode cX12_readStreet 0 = .ok (.aload_n 0, 1) := by decide +kernel
theorem dX12_readStreet_1 : decode cX12_readStreet 1 = .ok (.aload_n 0, 1) := by decide +kernel
theorem dX12_readStreet_2 : decode cX12_readStreet 2 = .ok (.getfield 17, 3) := by decide +kernel
theorem dX12_readStreet_5 : decode cX12_readStreet 5 = .ok (.iconst 1, 1) := by decide +kernel
theorem dX12_readStreet_6 : decode cX12_readStreet 6 = .ok (.iaload, 1) := by decide +kernel
theorem dX12_readStreet_7 : decode cX12_readStreet 7 = .ok (.bipush 12, 2) := by decide +kernel
theorem dX12_readStreet_9 : decode cX12_readStreet 9 = .ok (.if_icmp .ge 7, 3) := by decide +kernel
theorem dX12_readStreet_12 : decode cX12_readStreet 12 = .ok (.iconst 1, 1) := by decide +kernel
theorem dX12_readStreet_13 : decode cX12_readStreet 13 = .ok (.goto 4, 3) := by decide +kernel
theorem dX12_readStreet_16 : decode cX12_readStreet 16 = .ok (.iconst 0, 1) := by decide +kernel
theorem dX12_readStreet_17 : decode cX12_readStreet 17 = .ok (.putfield 108, 3) := by decide +kernel
theorem dX12_readStreet_20 : decode cX12_readStreet 20 = .ok (.aload_n 0, 1) := by decide +kernel
theorem dX12_readStreet_21 : decode cX12_readStreet 21 = .ok (.bipush 44, 2) := by decide +kernel
theorem dX12_readStreet_23 : decode cX12_readStreet 23 = .ok (.invokevirtual 116, 3) := by decide +kernel
theorem dX12_readStreet_26 : decode cX12_readStreet 26 = .ok (.istore_n 1, 1) := by decide +kernel
theorem dX12_readStreet_27 : decode cX12_readStreet 27 = .ok (.aload_n 0, 1) := by decide +kernel
theorem dX12_readStreet_28 : decode cX12_readStreet 28 = .ok (.bipush 44, 2) := by decide +kernel
theorem dX12_readStreet_30 : decode cX12_readStreet 30 = .ok (.invokevirtual 116, 3) := by decide +kernel
theorem dX12_readStreet_33 : decode cX12_readStreet 33 = .ok (.istore_n 2, 1) := by decide +kernel
theorem dX12_readStreet_34 : decode cX12_readStreet 34 = .ok (.aload_n 0, 1) := by decide +kernel
theorem dX12_readStreet_35 : decode cX12_readStreet 35 = .ok (.iconst 1, 1) := by decide +kernel
theorem dX12_readStreet_36 : decode cX12_readStreet 36 = .ok (.bipush 20, 2) := by decide +kernel
theorem dX12_readStreet_38 : decode cX12_readStreet 38 = .ok (.bipush 59, 2) := by decide +kernel
theorem dX12_readStreet_40 : decode cX12_readStreet 40 = .ok (.invokevirtual 112, 3) := by decide +kernel
theorem dX12_readStreet_43 : decode cX12_readStreet 43 = .ok (.istore_n 3, 1) := by decide +kernel
theorem dX12_readStreet_44 : decode cX12_readStreet 44 = .ok (.aload_n 0, 1) := by decide +kernel
theorem dX12_readStreet_45 : decode cX12_readStreet 45 = .ok (.aload_n 0, 1) := by decide +kernel
theorem dX12_readStreet_46 : decode cX12_readStreet 46 = .ok (.getfield 108, 3) := by decide +kernel
theorem dX12_readStreet_49 : decode cX12_readStreet 49 = .ok (.ifCond .eq 12, 3) := by decide +kernel
theorem dX12_readStreet_52 : decode cX12_readStreet 52 = .ok (.iload_n 1, 1) := by decide +kernel
theorem dX12_readStreet_53 : decode cX12_readStreet 53 = .ok (.iload_n 2, 1) := by decide +kernel
theorem dX12_readStreet_54 : decode cX12_readStreet 54 = .ok (.if_icmp .eq 7, 3) := by decide +kernel
theorem dX12_readStreet_57 : decode cX12_readStreet 57 = .ok (.iconst 1, 1) := by decide +kernel
theorem dX12_readStreet_58 : decode cX12_readStreet 58 = .ok (.goto 4, 3) := by decide +kernel
theorem dX12_readStreet_61 : decode cX12_readStreet 61 = .ok (.iconst 0, 1) := by decide +kernel
theorem dX12_readStreet_62 : decode cX12_readStreet 62 = .ok (.putfield 108, 3) := by decide +kernel
theorem dX12_readStreet_65 : decode cX12_readStreet 65 = .ok (.iconst 0, 1) := by decide +kernel
theorem dX12_readStreet_66 : decode cX12_readStreet 66 = .ok (.istore 4, 2) := by decide +kernel
theorem dX12_readStreet_68 : decode cX12_readStreet 68 = .ok (.iload 4, 2) := by decide +kernel
theorem dX12_readStreet_70 : decode cX12_readStreet 70 = .ok (.aload_n 0, 1) := by decide +kernel
theorem dX12_readStreet_71 : decode cX12_readStreet 71 = .ok (.getfield 17, 3) := by decide +kernel
theorem dX12_readStreet_74 : decode cX12_readStreet 74 = .ok (.iconst 1, 1) := by decide +kernel
theorem dX12_readStreet_75 : decode cX12_readStreet 75 = .ok (.iaload, 1) := by decide +kernel
theorem dX12_readStreet_76 : decode cX12_readStreet 76 = .ok (.if_icmp .ge 73, 3) := by decide +kernel
theorem dX12_readStreet_79 : decode cX12_readStreet 79 = .ok (.aload_n 0, 1) := by decide +kernel
theorem dX12_readStreet_80 : decode cX12_readStreet 80 = .ok (.getfield 20, 3) := by decide +kernel
theorem dX12_readStreet_83 : decode cX12_readStreet 83 = .ok (.bipush 12, 2) := by decide +kernel
theorem dX12_readStreet_85 : decode cX12_readStreet 85 = .ok (.iload 4, 2) := by decide +kernel
theorem dX12_readStreet_87 : decode cX12_readStreet 87 = .ok (.iadd, 1) := by decide +kernel
theorem dX12_readStreet_88 : decode cX12_readStreet 88 = .ok (.iaload, 1) := by decide +kernel
theorem dX12_readStreet_89 : decode cX12_readStreet 89 = .ok (.istore 5, 2) := by decide +kernel
theorem dX12_readStreet_91 : decode cX12_readStreet 91 = .ok (.aload_n 0, 1) := by decide +kernel
theorem dX12_readStreet_92 : decode cX12_readStreet 92 = .ok (.getfield 23, 3) := by decide +kernel
theorem dX12_readStreet_95 : decode cX12_readStreet 95 = .ok (.bipush 12, 2) := by decide +kernel
theorem dX12_readStreet_97 : decode cX12_readStreet 97 = .ok (.iload 4, 2) := by decide +kernel
theorem dX12_readStreet_99 : decode cX12_readStreet 99 = .ok (.iadd, 1) := by decide +kernel
theorem dX12_readStreet_100 : decode cX12_readStreet 100 = .ok (.iaload, 1) := by decide +kernel
theorem dX12_readStreet_101 : decode cX12_readStreet 101 = .ok (.istore 6, 2) := by decide +kernel
theorem dX12_readStreet_103 : decode cX12_readStreet 103 = .ok (.aload_n 0, 1) := by decide +kernel
theorem dX12_readStreet_104 : decode cX12_readStreet 104 = .ok (.aload_n 0, 1) := by decide +kernel
theorem dX12_readStreet_105 : decode cX12_readStreet 105 = .ok (.getfield 108, 3) := by decide +kernel
theorem dX12_readStreet_108 : decode cX12_readStreet 108 = .ok (.ifCond .eq 31, 3) := by decide +kernel
theorem dX12_readStreet_111 : decode cX12_readStreet 111 = .ok (.iload 5, 2) := by decide +kernel
theorem dX12_readStreet_113 : decode cX12_readStreet 113 = .ok (.iload_n 1, 1) := by decide +kernel
theorem dX12_readStreet_114 : decode cX12_readStreet 114 = .ok (.if_icmp .ne 9, 3) := by decide +kernel
theorem dX12_readStreet_117 : decode cX12_readStreet 117 = .ok (.iload 6, 2) := by decide +kernel
theorem dX12_readStreet_119 : decode cX12_readStreet 119 = .ok (.iload_n 2, 1) := by decide +kernel
theorem dX12_readStreet_120 : decode cX12_readStreet 120 = .ok (.if_icmp .eq 19, 3) := by decide +kernel
theorem dX12_readStreet_123 : decode cX12_readStreet 123 = .ok (.iload 5, 2) := by decide +kernel
theorem dX12_readStreet_125 : decode cX12_readStreet 125 = .ok (.iload_n 2, 1) := by decide +kernel
theorem dX12_readStreet_126 : decode cX12_readStreet 126 = .ok (.if_icmp .ne 9, 3) := by decide +kernel
theorem dX12_readStreet_129 : decode cX12_readStreet 129 = .ok (.iload 6, 2) := by decide +kernel
theorem dX12_readStreet_131 : decode cX12_readStreet 131 = .ok (.iload_n 1, 1) := by decide +kernel
theorem dX12_readStreet_132 : decode cX12_readStreet 132 = .ok (.if_icmp .eq 7, 3) := by decide +kernel
theorem dX12_readStreet_135 : decode cX12_readStreet 135 = .ok (.iconst 1, 1) := by decide +kernel
theorem dX12_readStreet_136 : decode cX12_readStreet 136 = .ok (.goto 4, 3) := by decide +kernel
theorem dX12_readStreet_139 : decode cX12_readStreet 139 = .ok (.iconst 0, 1) := by decide +kernel
theorem dX12_readStreet_140 : decode cX12_readStreet 140 = .ok (.putfield 108, 3) := by decide +kernel
theorem dX12_readStreet_143 : decode cX12_readStreet 143 = .ok (.iinc 4 1, 3) := by decide +kernel
theorem dX12_readStreet_146 : decode cX12_readStreet 146 = .ok (.goto (-78), 3) := by decide +kernel
theorem dX12_readStreet_149 : decode cX12_readStreet 149 = .ok (.aload_n 0, 1) := by decide +kernel
theorem dX12_readStreet_150 : decode cX12_readStreet 150 = .ok (.getfield 108, 3) := by decide +kernel
theorem dX12_readStreet_153 : decode cX12_readStreet 153 = .ok (.ifCond .eq 10, 3) := by decide +kernel
theorem dX12_readStreet_156 : decode cX12_readStreet 156 = .ok (.aload_n 0, 1) := by decide +kernel
theorem dX12_readStreet_157 : decode cX12_readStreet 157 = .ok (.iload_n 1, 1) := by decide +kernel
theorem dX12_readStreet_158 : decode cX12_readStreet 158 = .ok (.iload_n 2, 1) := by decide +kernel
theorem dX12_readStreet_159 : decode cX12_readStreet 159 = .ok (.iload_n 3, 1) := by decide +kernel
theorem dX12_readStreet_160 : decode cX12_readStreet 160 = .ok (.invokevirtual 74, 3) := by decide +kernel
theorem dX12_readStreet_163 : decode cX12_readStreet 163 = .ok (.return_, 1) := by decide +kernel
theorem dX12_readItem_0 : decode cX12_readItem 0 = .ok (.aload_n 0, 1) := by decide +kernel
theorem dX12_readItem_1 : decode cX12_readItem 1 = .ok (.invokevirtual 104, 3) := by decide +kernel
theorem dX12_readItem_4 : decode cX12_readItem 4 = .ok (.istore_n 1, 1) := by decide +kernel
theorem dX12_readItem_5 : decode cX12_readItem 5 = .ok (.aload_n 0, 1) := by decide +kernel
theorem dX12_readItem_6 : decode cX12_readItem 6 = .ok (.dup, 1) := by decide +kernel
theorem dX12_readItem_7 : decode cX12_readItem 7 = .ok (.getfield 101, 3) := by decide +kernel
theorem dX12_readItem_10 : decode cX12_readItem 10 = .ok (.iconst 1, 1) := by decide +kernel
theorem dX12_readItem_11 : decode cX12_readItem 11 = .ok (.iadd, 1) := by decide +kernel
theorem dX12_readItem_12 : decode cX12_readItem 12 = .ok (.putfield 101, 3) := by decide +kernel
theorem dX12_readItem_15 : decode cX12_readItem 15 = .ok (.aload_n 0, 1) := by decide +kernel
theorem dX12_readItem_16 : decode cX12_readItem 16 = .ok (.iconst 1, 1) := by decide +kernel
theorem dX12_readItem_17 : decode cX12_readItem 17 = .ok (.putfield 108, 3) := by decide +kernel
theorem dX12_readItem_20 : decode cX12_readItem 20 = .ok (.iload_n 1, 1) := by decide +kernel
theorem dX12_readItem_21 : decode cX12_readItem 21 = .ok (.lookupswitch 253 #[(99, 51), (103, 84), (114, 207), (115, 77), (119, 142)], 51) := by decide +kernel
theorem dX12_readItem_72 : decode cX12_readItem 72 = .ok (.aload_n 0, 1) := by decide +kernel
theorem dX12_readItem_73 : decode cX12_readItem 73 = .ok (.aload_n 0, 1) := by decide +kernel
theorem dX12_readItem_74 : decode cX12_readItem 74 = .ok (.getfield 120, 3) := by decide +kernel
theorem dX12_readItem_77 : decode cX12_readItem 77 = .ok (.putfield 108, 3) := by decide +kernel
theorem dX12_readItem_80 : decode cX12_readItem 80 = .ok (.aload_n 0, 1) := by decide +kernel
theorem dX12_readItem_81 : decode cX12_readItem 81 = .ok (.getfield 13, 3) := by decide +kernel
theorem dX12_readItem_84 : decode cX12_readItem 84 = .ok (.iconst 1, 1) := by decide +kernel
theorem dX12_readItem_85 : decode cX12_readItem 85 = .ok (.aload_n 0, 1) := by decide +kernel
theorem dX12_readItem_86 : decode cX12_readItem 86 = .ok (.iconst 1, 1) := by decide +kernel
theorem dX12_readItem_87 : decode cX12_readItem 87 = .ok (.bipush 8, 2) := by decide +kernel
theorem dX12_readItem_89 : decode cX12_readItem 89 = .ok (.bipush 59, 2) := by decide +kernel
theorem dX12_readItem_91 : decode cX12_readItem 91 = .ok (.invokevirtual 112, 3) := by decide +kernel
theorem dX12_readItem_94 : decode cX12_readItem 94 = .ok (.iastore, 1) := by decide +kernel
theorem dX12_readItem_95 : decode cX12_readItem 95 = .ok (.goto 184, 3) := by decide +kernel
theorem dX12_readItem_98 : decode cX12_readItem 98 = .ok (.aload_n 0, 1) := by decide +kernel
theorem dX12_readItem_99 : decode cX12_readItem 99 = .ok (.invokevirtual 123, 3) := by decide +kernel
theorem dX12_readItem_102 : decode cX12_readItem 102 = .ok (.goto 177, 3) := by decide +kernel
theorem dX12_readItem_105 : decode cX12_readItem 105 = .ok (.aload_n 0, 1) := by decide +kernel
theorem dX12_readItem_106 : decode cX12_readItem 106 = .ok (.aload_n 0, 1) := by decide +kernel
theorem dX12_readItem_107 : decode cX12_readItem 107 = .ok (.getfield 90, 3) := by decide +kernel
theorem dX12_readItem_110 : decode cX12_readItem 110 = .ok (.bipush 8, 2) := by decide +kernel
theorem dX12_readItem_112 : decode cX12_readItem 112 = .ok (.if_icmp .ge 7, 3) := by decide +kernel
theorem dX12_readItem_115 : decode cX12_readItem 115 = .ok (.iconst 1, 1) := by decide +kernel
theorem dX12_readItem_116 : decode cX12_readItem 116 = .ok (.goto 4, 3) := by decide +kernel
theorem dX12_readItem_119 : decode cX12_readItem 119 = .ok (.iconst 0, 1) := by decide +kernel
theorem dX12_readItem_120 : decode cX12_readItem 120 = .ok (.putfield 108, 3) := by decide +kernel
theorem dX12_readItem_123 : decode cX12_readItem 123 = .ok (.aload_n 0, 1) := by decide +kernel
theorem dX12_readItem_124 : decode cX12_readItem 124 = .ok (.bipush 44, 2) := by decide +kernel
theorem dX12_readItem_126 : decode cX12_readItem 126 = .ok (.invokevirtual 116, 3) := by decide +kernel
theorem dX12_readItem_129 : decode cX12_readItem 129 = .ok (.istore_n 2, 1) := by decide +kernel
theorem dX12_readItem_130 : decode cX12_readItem 130 = .ok (.aload_n 0, 1) := by decide +kernel
theorem dX12_readItem_131 : decode cX12_readItem 131 = .ok (.bipush 44, 2) := by decide +kernel
theorem dX12_readItem_133 : decode cX12_readItem 133 = .ok (.invokevirtual 116, 3) := by decide +kernel
theorem dX12_readItem_136 : decode cX12_readItem 136 = .ok (.istore_n 3, 1) := by decide +kernel
theorem dX12_readItem_137 : decode cX12_readItem 137 = .ok (.aload_n 0, 1) := by decide +kernel
theorem dX12_readItem_138 : decode cX12_readItem 138 = .ok (.bipush 59, 2) := by decide +kernel
theorem dX12_readItem_140 : decode cX12_readItem 140 = .ok (.invokevirtual 116, 3) := by decide +kernel
theorem dX12_readItem_143 : decode cX12_readItem 143 = .ok (.istore 4, 2) := by decide +kernel
theorem dX12_readItem_145 : decode cX12_readItem 145 = .ok (.aload_n 0, 1) := by decide +kernel
theorem dX12_readItem_146 : decode cX12_readItem 146 = .ok (.getfield 108, 3) := by decide +kernel
theorem dX12_readItem_149 : decode cX12_readItem 149 = .ok (.ifCond .eq 130, 3) := by decide +kernel
theorem dX12_readItem_152 : decode cX12_readItem 152 = .ok (.aload_n 0, 1) := by decide +kernel
theorem dX12_readItem_153 : decode cX12_readItem 153 = .ok (.iload_n 2, 1) := by decide +kernel
theorem dX12_readItem_154 : decode cX12_readItem 154 = .ok (.iload_n 3, 1) := by decide +kernel
theorem dX12_readItem_155 : decode cX12_readItem 155 = .ok (.iload 4, 2) := by decide +kernel
theorem dX12_readItem_157 : decode cX12_readItem 157 = .ok (.invokevirtual 78, 3) := by decide +kernel
theorem dX12_readItem_160 : decode cX12_readItem 160 = .ok (.goto 119, 3) := by decide +kernel
theorem dX12_readItem_163 : decode cX12_readItem 163 = .ok (.aload_n 0, 1) := by decide +kernel
theorem dX12_readItem_164 : decode cX12_readItem 164 = .ok (.aload_n 0, 1) := by decide +kernel
theorem dX12_readItem_165 : decode cX12_readItem 165 = .ok (.getfield 29, 3) := by decide +kernel
theorem dX12_readItem_168 : decode cX12_readItem 168 = .ok (.iconst 1, 1) := by decide +kernel
theorem dX12_readItem_169 : decode cX12_readItem 169 = .ok (.iaload, 1) := by decide +kernel
theorem dX12_readItem_170 : decode cX12_readItem 170 = .ok (.iconst 4, 1) := by decide +kernel
theorem dX12_readItem_171 : decode cX12_readItem 171 = .ok (.if_icmp .ge 7, 3) := by decide +kernel
theorem dX12_readItem_174 : decode cX12_readItem 174 = .ok (.iconst 1, 1) := by decide +kernel
theorem dX12_readItem_175 : decode cX12_readItem 175 = .ok (.goto 4, 3) := by decide +kernel
theorem dX12_readItem_178 : decode cX12_readItem 178 = .ok (.iconst 0, 1) := by decide +kernel
theorem dX12_readItem_179 : decode cX12_readItem 179 = .ok (.putfield 108, 3) := by decide +kernel
theorem dX12_readItem_182 : decode cX12_readItem 182 = .ok (.aload_n 0, 1) := by decide +kernel
theorem dX12_readItem_183 : decode cX12_readItem 183 = .ok (.iconst 0, 1) := by decide +kernel
theorem dX12_readItem_184 : decode cX12_readItem 184 = .ok (.iconst 3, 1) := by decide +kernel
theorem dX12_readItem_185 : decode cX12_readItem 185 = .ok (.bipush 44, 2) := by decide +kernel
theorem dX12_readItem_187 : decode cX12_readItem 187 = .ok (.invokevirtual 112, 3) := by decide +kernel
theorem dX12_readItem_190 : decode cX12_readItem 190 = .ok (.istore 5, 2) := by decide +kernel
theorem dX12_readItem_192 : decode cX12_readItem 192 = .ok (.aload_n 0, 1) := by decide +kernel
theorem dX12_readItem_193 : decode cX12_readItem 193 = .ok (.bipush 44, 2) := by decide +kernel
theorem dX12_readItem_195 : decode cX12_readItem 195 = .ok (.invokevirtual 116, 3) := by decide +kernel
theorem dX12_readItem_198 : decode cX12_readItem 198 = .ok (.istore 6, 2) := by decide +kernel
theorem dX12_readItem_200 : decode cX12_readItem 200 = .ok (.aload_n 0, 1) := by decide +kernel
theorem dX12_readItem_201 : decode cX12_readItem 201 = .ok (.bipush 59, 2) := by decide +kernel
theorem dX12_readItem_203 : decode cX12_readItem 203 = .ok (.invokevirtual 116, 3) := by decide +kernel
theorem dX12_readItem_206 : decode cX12_readItem 206 = .ok (.istore 7, 2) := by decide +kernel
theorem dX12_readItem_208 : decode cX12_readItem 208 = .ok (.aload_n 0, 1) := by decide +kernel
theorem dX12_readItem_209 : decode cX12_readItem 209 = .ok (.getfield 108, 3) := by decide +kernel
theorem dX12_readItem_212 : decode cX12_readItem 212 = .ok (.ifCond .eq 67, 3) := by decide +kernel
theorem dX12_readItem_215 : decode cX12_readItem 215 = .ok (.aload_n 0, 1) := by decide +kernel
theorem dX12_readItem_216 : decode cX12_readItem 216 = .ok (.iload 5, 2) := by decide +kernel
theorem dX12_readItem_218 : decode cX12_readItem 218 = .ok (.iload 6, 2) := by decide +kernel
theorem dX12_readItem_220 : decode cX12_readItem 220 = .ok (.iload 7, 2) := by decide +kernel
theorem dX12_readItem_222 : decode cX12_readItem 222 = .ok (.invokevirtual 81, 3) := by decide +kernel
theorem dX12_readItem_225 : decode cX12_readItem 225 = .ok (.goto 54, 3) := by decide +kernel
theorem dX12_readItem_228 : decode cX12_readItem 228 = .ok (.aload_n 0, 1) := by decide +kernel
theorem dX12_readItem_229 : decode cX12_readItem 229 = .ok (.iconst 0, 1) := by decide +kernel
theorem dX12_readItem_230 : decode cX12_readItem 230 = .ok (.bipush 9, 2) := by decide +kernel
theorem dX12_readItem_232 : decode cX12_readItem 232 = .ok (.bipush 44, 2) := by decide +kernel
theorem dX12_readItem_234 : decode cX12_readItem 234 = .ok (.invokevirtual 112, 3) := by decide +kernel
theorem dX12_readItem_237 : decode cX12_readItem 237 = .ok (.istore 8, 2) := by decide +kernel
theorem dX12_readItem_239 : decode cX12_readItem 239 = .ok (.aload_n 0, 1) := by decide +kernel
theorem dX12_readItem_240 : decode cX12_readItem 240 = .ok (.iconst 0, 1) := by decide +kernel
theorem dX12_readItem_241 : decode cX12_readItem 241 = .ok (.bipush 9, 2) := by decide +kernel
theorem dX12_readItem_243 : decode cX12_readItem 243 = .ok (.bipush 44, 2) := by decide +kernel
theorem dX12_readItem_245 : decode cX12_readItem 245 = .ok (.invokevirtual 112, 3) := by decide +kernel
theorem dX12_readItem_248 : decode cX12_readItem 248 = .ok (.istore 9, 2) := by decide +kernel
theorem dX12_readItem_250 : decode cX12_readItem 250 = .ok (.aload_n 0, 1) := by decide +kernel
theorem dX12_readItem_251 : decode cX12_readItem 251 = .ok (.iconst 0, 1) := by decide +kernel
theorem dX12_readItem_252 : decode cX12_readItem 252 = .ok (.bipush 9, 2) := by decide +kernel
theorem dX12_readItem_254 : decode cX12_readItem 254 = .ok (.bipush 59, 2) := by decide +kernel
theorem dX12_readItem_256 : decode cX12_readItem 256 = .ok (.invokevirtual 112, 3) := by decide +kernel
theorem dX12_readItem_259 : decode cX12_readItem 259 = .ok (.istore 10, 2) := by decide +kernel
theorem dX12_readItem_261 : decode cX12_readItem 261 = .ok (.aload_n 0, 1) := by decide +kernel
theorem dX12_readItem_262 : decode cX12_readItem 262 = .ok (.iload 8, 2) := by decide +kernel
theorem dX12_readItem_264 : decode cX12_readItem 264 = .ok (.iload 9, 2) := by decide +kernel
theorem dX12_readItem_266 : decode cX12_readItem 266 = .ok (.iload 10, 2) := by decide +kernel
theorem dX12_readItem_268 : decode cX12_readItem 268 = .ok (.invokevirtual 84, 3) := by decide +kernel
theorem dX12_readItem_271 : decode cX12_readItem 271 = .ok (.goto 8, 3) := by decide +kernel
theorem dX12_readItem_274 : decode cX12_readItem 274 = .ok (.aload_n 0, 1) := by decide +kernel
theorem dX12_readItem_275 : decode cX12_readItem 275 = .ok (.iconst 0, 1) := by decide +kernel
theorem dX12_readItem_276 : decode cX12_readItem 276 = .ok (.putfield 108, 3) := by decide +kernel
theorem dX12_readItem_279 : decode cX12_readItem 279 = .ok (.aload_n 0, 1) := by decide +kernel
theorem dX12_readItem_280 : decode cX12_readItem 280 = .ok (.aload_n 0, 1) := by decide +kernel
theorem dX12_readItem_281 : decode cX12_readItem 281 = .ok (.getfield 120, 3) := by decide +kernel
theorem dX12_readItem_284 : decode cX12_readItem 284 = .ok (.ifCond .eq 13, 3) := by decide +kernel
theorem dX12_readItem_287 : decode cX12_readItem 287 = .ok (.iload_n 1, 1) := by decide +kernel
theorem dX12_readItem_288 : decode cX12_readItem 288 = .ok (.bipush 99, 2) := by decide +kernel
theorem dX12_readItem_290 : decode cX12_readItem 290 = .ok (.if_icmp .ne 7, 3) := by decide +kernel
theorem dX12_readItem_293 : decode cX12_readItem 293 = .ok (.iconst 1, 1) := by decide +kernel
theorem dX12_readItem_294 : decode cX12_readItem 294 = .ok (.goto 4, 3) := by decide +kernel
theorem dX12_readItem_297 : decode cX12_readItem 297 = .ok (.iconst 0, 1) := by decide +kernel
theorem dX12_readItem_298 : decode cX12_readItem 298 = .ok (.putfield 120, 3) := by decide +kernel
theorem dX12_readItem_301 : decode cX12_readItem 301 = .ok (.return_, 1) := by decide +kernel
theorem dX12_fault_0 : decode cX12_fault 0 = .ok (.aload_n 0, 1) := by decide +kernel
theorem dX12_fault_1 : decode cX12_fault 1 = .ok (.iconst 0, 1) := by decide +kernel
theorem dX12_fault_2 : decode cX12_fault 2 = .ok (.putfield 101, 3) := by decide +kernel
theorem dX12_fault_5 : decode cX12_fault 5 = .ok (.aload_n 0, 1) := by decide +kernel
theorem dX12_fault_6 : decode cX12_fault 6 = .ok (.iconst 1, 1) := by decide +kernel
theorem dX12_fault_7 : decode cX12_fault 7 = .ok (.putfield 120, 3) := by decide +kernel
theorem dX12_fault_10 : decode cX12_fault 10 = .ok (.aload_n 0, 1) := by decide +kernel
theorem dX12_fault_11 : decode cX12_fault 11 = .ok (.getfield 13, 3) := by decide +kernel
theorem dX12_fault_14 : decode cX12_fault 14 = .ok (.iconst 1, 1) := by decide +kernel
theorem dX12_fault_15 : decode cX12_fault 15 = .ok (.iconst 4, 1) := by decide +kernel
theorem dX12_fault_16 : decode cX12_fault 16 = .ok (.iastore, 1) := by decide +kernel
theorem dX12_fault_17 : decode cX12_fault 17 = .ok (.aload_n 0, 1) := by decide +kernel
theorem dX12_fault_18 : decode cX12_fault 18 = .ok (.getfield 17, 3) := by decide +kernel
theorem dX12_fault_21 : decode cX12_fault 21 = .ok (.iconst 1, 1) := by decide +kernel
theorem dX12_fault_22 : decode cX12_fault 22 = .ok (.iconst 0, 1) := by decide +kernel
theorem dX12_fault_23 : decode cX12_fault 23 = .ok (.iastore, 1) := by decide +kernel
theorem dX12_fault_24 : decode cX12_fault 24 = .ok (.aload_n 0, 1) := by decide +kernel
theorem dX12_fault_25 : decode cX12_fault 25 = .ok (.getfield 29, 3) := by decide +kernel
theorem dX12_fault_28 : decode cX12_fault 28 = .ok (.iconst 1, 1) := by decide +kernel
theorem dX12_fault_29 : decode cX12_fault 29 = .ok (.iconst 0, 1) := by decide +kernel
theorem dX12_fault_30 : decode cX12_fault 30 = .ok (.iastore, 1) := by decide +kernel
theorem dX12_fault_31 : decode cX12_fault 31 = .ok (.aload_n 0, 1) := by decide +kernel
theorem dX12_fault_32 : decode cX12_fault 32 = .ok (.iconst 0, 1) := by decide +kernel
theorem dX12_fault_33 : decode cX12_fault 33 = .ok (.putfield 90, 3) := by decide +kernel
theorem dX12_fault_36 : decode cX12_fault 36 = .ok (.aload_n 0, 1) := by decide +kernel
theorem dX12_fault_37 : decode cX12_fault 37 = .ok (.iconst 2, 1) := by decide +kernel
theorem dX12_fault_38 : decode cX12_fault 38 = .ok (.iconst 3, 1) := by decide +kernel
theorem dX12_fault_39 : decode cX12_fault 39 = .ok (.iconst 1, 1) := by decide +kernel
theorem dX12_fault_40 : decode cX12_fault 40 = .ok (.invokevirtual 84, 3) := by decide +kernel
theorem dX12_fault_43 : decode cX12_fault 43 = .ok (.aload_n 0, 1) := by decide +kernel
theorem dX12_fault_44 : decode cX12_fault 44 = .ok (.getfield 101, 3) := by decide +kernel
theorem dX12_fault_47 : decode cX12_fault 47 = .ok (.aload_n 0, 1) := by decide +kernel
theorem dX12_fault_48 : decode cX12_fault 48 = .ok (.getfield 98, 3) := by decide +kernel
theorem dX12_fault_51 : decode cX12_fault 51 = .ok (.if_icmp .ge 24, 3) := by decide +kernel
theorem dX12_fault_54 : decode cX12_fault 54 = .ok (.aload_n 0, 1) := by decide +kernel
theorem dX12_fault_55 : decode cX12_fault 55 = .ok (.getfield 101, 3) := by decide +kernel
theorem dX12_fault_58 : decode cX12_fault 58 = .ok (.istore_n 1, 1) := by decide +kernel
theorem dX12_fault_59 : decode cX12_fault 59 = .ok (.aload_n 0, 1) := by decide +kernel
theorem dX12_fault_60 : decode cX12_fault 60 = .ok (.invokevirtual 126, 3) := by decide +kernel
theorem dX12_fault_63 : decode cX12_fault 63 = .ok (.aload_n 0, 1) := by decide +kernel
theorem dX12_fault_64 : decode cX12_fault 64 = .ok (.getfield 108, 3) := by decide +kernel
theorem dX12_fault_67 : decode cX12_fault 67 = .ok (.ifCond .ne 5, 3) := by decide +kernel
theorem dX12_fault_70 : decode cX12_fault 70 = .ok (.iload_n 1, 1) := by decide +kernel
theorem dX12_fault_71 : decode cX12_fault 71 = .ok (.ireturn, 1) := by decide +kernel
theorem dX12_fault_72 : decode cX12_fault 72 = .ok (.goto (-29), 3) := by decide +kernel
theorem dX12_fault_75 : decode cX12_fault 75 = .ok (.bipush (-4), 2) := by decide +kernel
theorem dX12_fault_77 : decode cX12_fault 77 = .ok (.ireturn, 1) := by decide +kernel
theorem dX12_takeDraft_0 : decode cX12_takeDraft 0 = .ok (.aload_n 0, 1) := by decide +kernel
theorem dX12_takeDraft_1 : decode cX12_takeDraft 1 = .ok (.getfield 13, 3) := by decide +kernel
theorem dX12_takeDraft_4 : decode cX12_takeDraft 4 = .ok (.iconst 0, 1) := by decide +kernel
theorem dX12_takeDraft_5 : decode cX12_takeDraft 5 = .ok (.aload_n 0, 1) := by decide +kernel
theorem dX12_takeDraft_6 : decode cX12_takeDraft 6 = .ok (.getfield 13, 3) := by decide +kernel
theorem dX12_takeDraft_9 : decode cX12_takeDraft 9 = .ok (.iconst 1, 1) := by decide +kernel
theorem dX12_takeDraft_10 : decode cX12_takeDraft 10 = .ok (.iaload, 1) := by decide +kernel
theorem dX12_takeDraft_11 : decode cX12_takeDraft 11 = .ok (.iastore, 1) := by decide +kernel
theorem dX12_takeDraft_12 : decode cX12_takeDraft 12 = .ok (.aload_n 0, 1) := by decide +kernel
theorem dX12_takeDraft_13 : decode cX12_takeDraft 13 = .ok (.getfield 17, 3) := by decide +kernel
theorem dX12_takeDraft_16 : decode cX12_takeDraft 16 = .ok (.iconst 0, 1) := by decide +kernel
theorem dX12_takeDraft_17 : decode cX12_takeDraft 17 = .ok (.aload_n 0, 1) := by decide +kernel
theorem dX12_takeDraft_18 : decode cX12_takeDraft 18 = .ok (.getfield 17, 3) := by decide +kernel
theorem dX12_takeDraft_21 : decode cX12_takeDraft 21 = .ok (.iconst 1, 1) := by decide +kernel
theorem dX12_takeDraft_22 : decode cX12_takeDraft 22 = .ok (.iaload, 1) := by decide +kernel
theorem dX12_takeDraft_23 : decode cX12_takeDraft 23 = .ok (.iastore, 1) := by decide +kernel
theorem dX12_takeDraft_24 : decode cX12_takeDraft 24 = .ok (.aload_n 0, 1) := by decide +kernel
theorem dX12_takeDraft_25 : decode cX12_takeDraft 25 = .ok (.getfield 29, 3) := by decide +kernel
theorem dX12_takeDraft_28 : decode cX12_takeDraft 28 = .ok (.iconst 0, 1) := by decide +kernel
theorem dX12_takeDraft_29 : decode cX12_takeDraft 29 = .ok (.aload_n 0, 1) := by decide +kernel
theorem dX12_takeDraft_30 : decode cX12_takeDraft 30 = .ok (.getfield 29, 3) := by decide +kernel
theorem dX12_takeDraft_33 : decode cX12_takeDraft 33 = .ok (.iconst 1, 1) := by decide +kernel
theorem dX12_takeDraft_34 : decode cX12_takeDraft 34 = .ok (.iaload, 1) := by decide +kernel
theorem dX12_takeDraft_35 : decode cX12_takeDraft 35 = .ok (.iastore, 1) := by decide +kernel
theorem dX12_takeDraft_36 : decode cX12_takeDraft 36 = .ok (.iconst 0, 1) := by decide +kernel
theorem dX12_takeDraft_37 : decode cX12_takeDraft 37 = .ok (.istore_n 1, 1) := by decide +kernel
theorem dX12_takeDraft_38 : decode cX12_takeDraft 38 = .ok (.iload_n 1, 1) := by decide +kernel
theorem dX12_takeDraft_39 : decode cX12_takeDraft 39 = .ok (.bipush 12, 2) := by decide +kernel
theorem dX12_takeDraft_41 : decode cX12_takeDraft 41 = .ok (.if_icmp .ge 54, 3) := by decide +kernel
theorem dX12_takeDraft_44 : decode cX12_takeDraft 44 = .ok (.aload_n 0, 1) := by decide +kernel
theorem dX12_takeDraft_45 : decode cX12_takeDraft 45 = .ok (.getfield 20, 3) := by decide +kernel
theorem dX12_takeDraft_48 : decode cX12_takeDraft 48 = .ok (.iload_n 1, 1) := by decide +kernel
theorem dX12_takeDraft_49 : decode cX12_takeDraft 49 = .ok (.aload_n 0, 1) := by decide +kernel
theorem dX12_takeDraft_50 : decode cX12_takeDraft 50 = .ok (.getfield 20, 3) := by decide +kernel
theorem dX12_takeDraft_53 : decode cX12_takeDraft 53 = .ok (.bipush 12, 2) := by decide +kernel
theorem dX12_takeDraft_55 : decode cX12_takeDraft 55 = .ok (.iload_n 1, 1) := by decide +kernel
theorem dX12_takeDraft_56 : decode cX12_takeDraft 56 = .ok (.iadd, 1) := by decide +kernel
theorem dX12_takeDraft_57 : decode cX12_takeDraft 57 = .ok (.iaload, 1) := by decide +kernel
theorem dX12_takeDraft_58 : decode cX12_takeDraft 58 = .ok (.iastore, 1) := by decide +kernel
theorem dX12_takeDraft_59 : decode cX12_takeDraft 59 = .ok (.aload_n 0, 1) := by decide +kernel
theorem dX12_takeDraft_60 : decode cX12_takeDraft 60 = .ok (.getfield 23, 3) := by decide +kernel
theorem dX12_takeDraft_63 : decode cX12_takeDraft 63 = .ok (.iload_n 1, 1) := by decide +kernel
theorem dX12_takeDraft_64 : decode cX12_takeDraft 64 = .ok (.aload_n 0, 1) := by decide +kernel
theorem dX12_takeDraft_65 : decode cX12_takeDraft 65 = .ok (.getfield 23, 3) := by decide +kernel
theorem dX12_takeDraft_68 : decode cX12_takeDraft 68 = .ok (.bipush 12, 2) := by decide +kernel
theorem dX12_takeDraft_70 : decode cX12_takeDraft 70 = .ok (.iload_n 1, 1) := by decide +kernel
theorem dX12_takeDraft_71 : decode cX12_takeDraft 71 = .ok (.iadd, 1) := by decide +kernel
theorem dX12_takeDraft_72 : decode cX12_takeDraft 72 = .ok (.iaload, 1) := by decide +kernel
theorem dX12_takeDraft_73 : decode cX12_takeDraft 73 = .ok (.iastore, 1) := by decide +kernel
theorem dX12_takeDraft_74 : decode cX12_takeDraft 74 = .ok (.aload_n 0, 1) := by decide +kernel
theorem dX12_takeDraft_75 : decode cX12_takeDraft 75 = .ok (.getfield 26, 3) := by decide +kernel
theorem dX12_takeDraft_78 : decode cX12_takeDraft 78 = .ok (.iload_n 1, 1) := by decide +kernel
theorem dX12_takeDraft_79 : decode cX12_takeDraft 79 = .ok (.aload_n 0, 1) := by decide +kernel
theorem dX12_takeDraft_80 : decode cX12_takeDraft 80 = .ok (.getfield 26, 3) := by decide +kernel
theorem dX12_takeDraft_83 : decode cX12_takeDraft 83 = .ok (.bipush 12, 2) := by decide +kernel
theorem dX12_takeDraft_85 : decode cX12_takeDraft 85 = .ok (.iload_n 1, 1) := by decide +kernel
theorem dX12_takeDraft_86 : decode cX12_takeDraft 86 = .ok (.iadd, 1) := by decide +kernel
theorem dX12_takeDraft_87 : decode cX12_takeDraft 87 = .ok (.iaload, 1) := by decide +kernel
theorem dX12_takeDraft_88 : decode cX12_takeDraft 88 = .ok (.iastore, 1) := by decide +kernel
theorem dX12_takeDraft_89 : decode cX12_takeDraft 89 = .ok (.iinc 1 1, 3) := by decide +kernel
theorem dX12_takeDraft_92 : decode cX12_takeDraft 92 = .ok (.goto (-54), 3) := by decide +kernel
theorem dX12_takeDraft_95 : decode cX12_takeDraft 95 = .ok (.iconst 0, 1) := by decide +kernel
theorem dX12_takeDraft_96 : decode cX12_takeDraft 96 = .ok (.istore_n 1, 1) := by decide +kernel
theorem dX12_takeDraft_97 : decode cX12_takeDraft 97 = .ok (.iload_n 1, 1) := by decide +kernel
theorem dX12_takeDraft_98 : decode cX12_takeDraft 98 = .ok (.iconst 4, 1) := by decide +kernel
theorem dX12_takeDraft_99 : decode cX12_takeDraft 99 = .ok (.if_icmp .ge 66, 3) := by decide +kernel
theorem dX12_takeDraft_102 : decode cX12_takeDraft 102 = .ok (.aload_n 0, 1) := by decide +kernel
theorem dX12_takeDraft_103 : decode cX12_takeDraft 103 = .ok (.getfield 32, 3) := by decide +kernel
theorem dX12_takeDraft_106 : decode cX12_takeDraft 106 = .ok (.iload_n 1, 1) := by decide +kernel
theorem dX12_takeDraft_107 : decode cX12_takeDraft 107 = .ok (.aload_n 0, 1) := by decide +kernel
theorem dX12_takeDraft_108 : decode cX12_takeDraft 108 = .ok (.getfield 32, 3) := by decide +kernel
theorem dX12_takeDraft_111 : decode cX12_takeDraft 111 = .ok (.iconst 4, 1) := by decide +kernel
theorem dX12_takeDraft_112 : decode cX12_takeDraft 112 = .ok (.iload_n 1, 1) := by decide +kernel
theorem dX12_takeDraft_113 : decode cX12_takeDraft 113 = .ok (.iadd, 1) := by decide +kernel
theorem dX12_takeDraft_114 : decode cX12_takeDraft 114 = .ok (.iaload, 1) := by decide +kernel
theorem dX12_takeDraft_115 : decode cX12_takeDraft 115 = .ok (.iastore, 1) := by decide +kernel
theorem dX12_takeDraft_116 : decode cX12_takeDraft 116 = .ok (.aload_n 0, 1) := by decide +kernel
theorem dX12_takeDraft_117 : decode cX12_takeDraft 117 = .ok (.getfield 35, 3) := by decide +kernel
theorem dX12_takeDraft_120 : decode cX12_takeDraft 120 = .ok (.iload_n 1, 1) := by decide +kernel
theorem dX12_takeDraft_121 : decode cX12_takeDraft 121 = .ok (.aload_n 0, 1) := by decide +kernel
theorem dX12_takeDraft_122 : decode cX12_takeDraft 122 = .ok (.getfield 35, 3) := by decide +kernel
theorem dX12_takeDraft_125 : decode cX12_takeDraft 125 = .ok (.iconst 4, 1) := by decide +kernel
theorem dX12_takeDraft_126 : decode cX12_takeDraft 126 = .ok (.iload_n 1, 1) := by decide +kernel
theorem dX12_takeDraft_127 : decode cX12_takeDraft 127 = .ok (.iadd, 1) := by decide +kernel
theorem dX12_takeDraft_128 : decode cX12_takeDraft 128 = .ok (.iaload, 1) := by decide +kernel
theorem dX12_takeDraft_129 : decode cX12_takeDraft 129 = .ok (.iastore, 1) := by decide +kernel
theorem dX12_takeDraft_130 : decode cX12_takeDraft 130 = .ok (.aload_n 0, 1) := by decide +kernel
theorem dX12_takeDraft_131 : decode cX12_takeDraft 131 = .ok (.getfield 38, 3) := by decide +kernel
theorem dX12_takeDraft_134 : decode cX12_takeDraft 134 = .ok (.iload_n 1, 1) := by decide +kernel
theorem dX12_takeDraft_135 : decode cX12_takeDraft 135 = .ok (.aload_n 0, 1) := by decide +kernel
theorem dX12_takeDraft_136 : decode cX12_takeDraft 136 = .ok (.getfield 38, 3) := by decide +kernel
theorem dX12_takeDraft_139 : decode cX12_takeDraft 139 = .ok (.iconst 4, 1) := by decide +kernel
theorem dX12_takeDraft_140 : decode cX12_takeDraft 140 = .ok (.iload_n 1, 1) := by decide +kernel
theorem dX12_takeDraft_141 : decode cX12_takeDraft 141 = .ok (.iadd, 1) := by decide +kernel
theorem dX12_takeDraft_142 : decode cX12_takeDraft 142 = .ok (.iaload, 1) := by decide +kernel
theorem dX12_takeDraft_143 : decode cX12_takeDraft 143 = .ok (.iastore, 1) := by decide +kernel
theorem dX12_takeDraft_144 : decode cX12_takeDraft 144 = .ok (.aload_n 0, 1) := by decide +kernel
theorem dX12_takeDraft_145 : decode cX12_takeDraft 145 = .ok (.getfield 47, 3) := by decide +kernel
theorem dX12_takeDraft_148 : decode cX12_takeDraft 148 = .ok (.bipush 28, 2) := by decide +kernel
theorem dX12_takeDraft_150 : decode cX12_takeDraft 150 = .ok (.iload_n 1, 1) := by decide +kernel
theorem dX12_takeDraft_151 : decode cX12_takeDraft 151 = .ok (.iadd, 1) := by decide +kernel
theorem dX12_takeDraft_152 : decode cX12_takeDraft 152 = .ok (.aload_n 0, 1) := by decide +kernel
theorem dX12_takeDraft_153 : decode cX12_takeDraft 153 = .ok (.getfield 38, 3) := by decide +kernel
theorem dX12_takeDraft_156 : decode cX12_takeDraft 156 = .ok (.iload_n 1, 1) := by decide +kernel
theorem dX12_takeDraft_157 : decode cX12_takeDraft 157 = .ok (.iaload, 1) := by decide +kernel
theorem dX12_takeDraft_158 : decode cX12_takeDraft 158 = .ok (.iastore, 1) := by decide +kernel
theorem dX12_takeDraft_159 : decode cX12_takeDraft 159 = .ok (.iinc 1 1, 3) := by decide +kernel
theorem dX12_takeDraft_162 : decode cX12_takeDraft 162 = .ok (.goto (-65), 3) := by decide +kernel
theorem dX12_takeDraft_165 : decode cX12_takeDraft 165 = .ok (.iconst 0, 1) := by decide +kernel
theorem dX12_takeDraft_166 : decode cX12_takeDraft 166 = .ok (.istore_n 1, 1) := by decide +kernel
theorem dX12_takeDraft_167 : decode cX12_takeDraft 167 = .ok (.iload_n 1, 1) := by decide +kernel
theorem dX12_takeDraft_168 : decode cX12_takeDraft 168 = .ok (.iconst 3, 1) := by decide +kernel
theorem dX12_takeDraft_169 : decode cX12_takeDraft 169 = .ok (.if_icmp .ge 23, 3) := by decide +kernel
theorem dX12_takeDraft_172 : decode cX12_takeDraft 172 = .ok (.aload_n 0, 1) := by decide +kernel
theorem dX12_takeDraft_173 : decode cX12_takeDraft 173 = .ok (.getfield 41, 3) := by decide +kernel
theorem dX12_takeDraft_176 : decode cX12_takeDraft 176 = .ok (.iload_n 1, 1) := by decide +kernel
theorem dX12_takeDraft_177 : decode cX12_takeDraft 177 = .ok (.aload_n 0, 1) := by decide +kernel
theorem dX12_takeDraft_178 : decode cX12_takeDraft 178 = .ok (.getfield 41, 3) := by decide +kernel
theorem dX12_takeDraft_181 : decode cX12_takeDraft 181 = .ok (.iconst 3, 1) := by decide +kernel
theorem dX12_takeDraft_182 : decode cX12_takeDraft 182 = .ok (.iload_n 1, 1) := by decide +kernel
theorem dX12_takeDraft_183 : decode cX12_takeDraft 183 = .ok (.iadd, 1) := by decide +kernel
theorem dX12_takeDraft_184 : decode cX12_takeDraft 184 = .ok (.iaload, 1) := by decide +kernel
