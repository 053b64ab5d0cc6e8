theorem dX6_add_23 : decode cX6_add 23 = .ok (.aload_n 0, 1) := by decide +kernel
theorem dX6_add_24 : decode cX6_add 24 = .ok (.getfield 30, 3) := by decide +kernel
theorem dX6_add_27 : decode cX6_add 27 = .ok (.iload_n 2, 1) := by decide +kernel
theorem dX6_add_28 : decode cX6_add 28 = .ok (.iastore, 1) := by decide +kernel
theorem dX6_add_29 : decode cX6_add 29 = .ok (.aload_n 0, 1) := by decide +kernel
theorem dX6_add_30 : decode cX6_add 30 = .ok (.getfield 20, 3) := by decide +kernel
theorem dX6_add_33 : decode cX6_add 33 = .ok (.iload_n 1, 1) := by decide +kernel
theorem dX6_add_34 : decode cX6_add 34 = .ok (.aaload, 1) := by decide +kernel
theorem dX6_add_35 : decode cX6_add 35 = .ok (.iload_n 2, 1) := by decide +kernel
theorem dX6_add_36 : decode cX6_add 36 = .ok (.iload_n 3, 1) := by decide +kernel
theorem dX6_add_37 : decode cX6_add 37 = .ok (.iastore, 1) := by decide +kernel
theorem dX6_add_38 : decode cX6_add 38 = .ok (.aload_n 0, 1) := by decide +kernel
theorem dX6_add_39 : decode cX6_add 39 = .ok (.getfield 20, 3) := by decide +kernel
theorem dX6_add_42 : decode cX6_add 42 = .ok (.iload_n 2, 1) := by decide +kernel
theorem dX6_add_43 : decode cX6_add 43 = .ok (.aaload, 1) := by decide +kernel
theorem dX6_add_44 : decode cX6_add 44 = .ok (.iload_n 1, 1) := by decide +kernel
theorem dX6_add_45 : decode cX6_add 45 = .ok (.iload_n 3, 1) := by decide +kernel
theorem dX6_add_46 : decode cX6_add 46 = .ok (.iastore, 1) := by decide +kernel
theorem dX6_add_47 : decode cX6_add 47 = .ok (.aload_n 0, 1) := by decide +kernel
theorem dX6_add_48 : decode cX6_add 48 = .ok (.dup, 1) := by decide +kernel
theorem dX6_add_49 : decode cX6_add 49 = .ok (.getfield 30, 3) := by decide +kernel
theorem dX6_add_52 : decode cX6_add 52 = .ok (.iconst 1, 1) := by decide +kernel
theorem dX6_add_53 : decode cX6_add 53 = .ok (.iadd, 1) := by decide +kernel
theorem dX6_add_54 : decode cX6_add 54 = .ok (.putfield 30, 3) := by decide +kernel
theorem dX6_add_57 : decode cX6_add 57 = .ok (.return_, 1) := by decide +kernel
theorem dX6_measure_0 : decode cX6_measure 0 = .ok (.iconst 0, 1) := by decide +kernel
theorem dX6_measure_1 : decode cX6_measure 1 = .ok (.istore_n 3, 1) := by decide +kernel
theorem dX6_measure_2 : decode cX6_measure 2 = .ok (.iload_n 3, 1) := by decide +kernel
theorem dX6_measure_3 : decode cX6_measure 3 = .ok (.bipush 8, 2) := by decide +kernel
theorem dX6_measure_5 : decode cX6_measure 5 = .ok (.if_icmp .ge 23, 3) := by decide +kernel
theorem dX6_measure_8 : decode cX6_measure 8 = .ok (.aload_n 1, 1) := by decide +kernel
theorem dX6_measure_9 : decode cX6_measure 9 = .ok (.iload_n 3, 1) := by decide +kernel
theorem dX6_measure_10 : decode cX6_measure 10 = .ok (.aaload, 1) := by decide +kernel
theorem dX6_measure_11 : decode cX6_measure 11 = .ok (.bipush (-4), 2) := by decide +kernel
theorem dX6_measure_13 : decode cX6_measure 13 = .ok (.invokestatic 33, 3) := by decide +kernel
theorem dX6_measure_16 : decode cX6_measure 16 = .ok (.aload_n 1, 1) := by decide +kernel
theorem dX6_measure_17 : decode cX6_measure 17 = .ok (.iload_n 3, 1) := by decide +kernel
theorem dX6_measure_18 : decode cX6_measure 18 = .ok (.aaload, 1) := by decide +kernel
theorem dX6_measure_19 : decode cX6_measure 19 = .ok (.iload_n 3, 1) := by decide +kernel
theorem dX6_measure_20 : decode cX6_measure 20 = .ok (.iconst 0, 1) := by decide +kernel
theorem dX6_measure_21 : decode cX6_measure 21 = .ok (.iastore, 1) := by decide +kernel
theorem dX6_measure_22 : decode cX6_measure 22 = .ok (.iinc 3 1, 3) := by decide +kernel
theorem dX6_measure_25 : decode cX6_measure 25 = .ok (.goto (-23), 3) := by decide +kernel
theorem dX6_measure_28 : decode cX6_measure 28 = .ok (.iconst 0, 1) := by decide +kernel
theorem dX6_measure_29 : decode cX6_measure 29 = .ok (.istore_n 3, 1) := by decide +kernel
theorem dX6_measure_30 : decode cX6_measure 30 = .ok (.iload_n 3, 1) := by decide +kernel
theorem dX6_measure_31 : decode cX6_measure 31 = .ok (.aload_n 0, 1) := by decide +kernel
theorem dX6_measure_32 : decode cX6_measure 32 = .ok (.getfield 30, 3) := by decide +kernel
theorem dX6_measure_35 : decode cX6_measure 35 = .ok (.if_icmp .ge 64, 3) := by decide +kernel
theorem dX6_measure_38 : decode cX6_measure 38 = .ok (.aload_n 0, 1) := by decide +kernel
theorem dX6_measure_39 : decode cX6_measure 39 = .ok (.getfield 9, 3) := by decide +kernel
theorem dX6_measure_42 : decode cX6_measure 42 = .ok (.iload_n 3, 1) := by decide +kernel
theorem dX6_measure_43 : decode cX6_measure 43 = .ok (.iaload, 1) := by decide +kernel
theorem dX6_measure_44 : decode cX6_measure 44 = .ok (.istore 4, 2) := by decide +kernel
theorem dX6_measure_46 : decode cX6_measure 46 = .ok (.aload_n 0, 1) := by decide +kernel
theorem dX6_measure_47 : decode cX6_measure 47 = .ok (.getfield 15, 3) := by decide +kernel
theorem dX6_measure_50 : decode cX6_measure 50 = .ok (.iload_n 3, 1) := by decide +kernel
theorem dX6_measure_51 : decode cX6_measure 51 = .ok (.iaload, 1) := by decide +kernel
theorem dX6_measure_52 : decode cX6_measure 52 = .ok (.istore 5, 2) := by decide +kernel
theorem dX6_measure_54 : decode cX6_measure 54 = .ok (.iload_n 3, 1) := by decide +kernel
theorem dX6_measure_55 : decode cX6_measure 55 = .ok (.iload_n 2, 1) := by decide +kernel
theorem dX6_measure_56 : decode cX6_measure 56 = .ok (.if_icmp .eq 37, 3) := by decide +kernel
theorem dX6_measure_59 : decode cX6_measure 59 = .ok (.aload_n 1, 1) := by decide +kernel
theorem dX6_measure_60 : decode cX6_measure 60 = .ok (.iload 4, 2) := by decide +kernel
theorem dX6_measure_62 : decode cX6_measure 62 = .ok (.aaload, 1) := by decide +kernel
theorem dX6_measure_63 : decode cX6_measure 63 = .ok (.iload 5, 2) := by decide +kernel
theorem dX6_measure_65 : decode cX6_measure 65 = .ok (.aload_n 0, 1) := by decide +kernel
theorem dX6_measure_66 : decode cX6_measure 66 = .ok (.getfield 20, 3) := by decide +kernel
theorem dX6_measure_69 : decode cX6_measure 69 = .ok (.iload 4, 2) := by decide +kernel
theorem dX6_measure_71 : decode cX6_measure 71 = .ok (.aaload, 1) := by decide +kernel
theorem dX6_measure_72 : decode cX6_measure 72 = .ok (.iload 5, 2) := by decide +kernel
theorem dX6_measure_74 : decode cX6_measure 74 = .ok (.iaload, 1) := by decide +kernel
theorem dX6_measure_75 : decode cX6_measure 75 = .ok (.iastore, 1) := by decide +kernel
theorem dX6_measure_76 : decode cX6_measure 76 = .ok (.aload_n 1, 1) := by decide +kernel
theorem dX6_measure_77 : decode cX6_measure 77 = .ok (.iload 5, 2) := by decide +kernel
theorem dX6_measure_79 : decode cX6_measure 79 = .ok (.aaload, 1) := by decide +kernel
theorem dX6_measure_80 : decode cX6_measure 80 = .ok (.iload 4, 2) := by decide +kernel
theorem dX6_measure_82 : decode cX6_measure 82 = .ok (.aload_n 0, 1) := by decide +kernel
theorem dX6_measure_83 : decode cX6_measure 83 = .ok (.getfield 20, 3) := by decide +kernel
theorem dX6_measure_86 : decode cX6_measure 86 = .ok (.iload 4, 2) := by decide +kernel
theorem dX6_measure_88 : decode cX6_measure 88 = .ok (.aaload, 1) := by decide +kernel
theorem dX6_measure_89 : decode cX6_measure 89 = .ok (.iload 5, 2) := by decide +kernel
theorem dX6_measure_91 : decode cX6_measure 91 = .ok (.iaload, 1) := by decide +kernel
theorem dX6_measure_92 : decode cX6_measure 92 = .ok (.iastore, 1) := by decide +kernel
theorem dX6_measure_93 : decode cX6_measure 93 = .ok (.iinc 3 1, 3) := by decide +kernel
theorem dX6_measure_96 : decode cX6_measure 96 = .ok (.goto (-66), 3) := by decide +kernel
theorem dX6_measure_99 : decode cX6_measure 99 = .ok (.iconst 0, 1) := by decide +kernel
theorem dX6_measure_100 : decode cX6_measure 100 = .ok (.istore_n 3, 1) := by decide +kernel
theorem dX6_measure_101 : decode cX6_measure 101 = .ok (.iload_n 3, 1) := by decide +kernel
theorem dX6_measure_102 : decode cX6_measure 102 = .ok (.aload_n 0, 1) := by decide +kernel
theorem dX6_measure_103 : decode cX6_measure 103 = .ok (.getfield 26, 3) := by decide +kernel
theorem dX6_measure_106 : decode cX6_measure 106 = .ok (.if_icmp .ge 15, 3) := by decide +kernel
theorem dX6_measure_109 : decode cX6_measure 109 = .ok (.aload_n 0, 1) := by decide +kernel
theorem dX6_measure_110 : decode cX6_measure 110 = .ok (.aload_n 1, 1) := by decide +kernel
theorem dX6_measure_111 : decode cX6_measure 111 = .ok (.iload_n 3, 1) := by decide +kernel
theorem dX6_measure_112 : decode cX6_measure 112 = .ok (.invokevirtual 39, 3) := by decide +kernel
theorem dX6_measure_115 : decode cX6_measure 115 = .ok (.iinc 3 1, 3) := by decide +kernel
theorem dX6_measure_118 : decode cX6_measure 118 = .ok (.goto (-17), 3) := by decide +kernel
theorem dX6_measure_121 : decode cX6_measure 121 = .ok (.return_, 1) := by decide +kernel
theorem dX6_shortenBy_0 : decode cX6_shortenBy 0 = .ok (.iconst 0, 1) := by decide +kernel
theorem dX6_shortenBy_1 : decode cX6_shortenBy 1 = .ok (.istore_n 3, 1) := by decide +kernel
theorem dX6_shortenBy_2 : decode cX6_shortenBy 2 = .ok (.iload_n 3, 1) := by decide +kernel
theorem dX6_shortenBy_3 : decode cX6_shortenBy 3 = .ok (.aload_n 0, 1) := by decide +kernel
theorem dX6_shortenBy_4 : decode cX6_shortenBy 4 = .ok (.getfield 26, 3) := by decide +kernel
theorem dX6_shortenBy_7 : decode cX6_shortenBy 7 = .ok (.if_icmp .ge 92, 3) := by decide +kernel
theorem dX6_shortenBy_10 : decode cX6_shortenBy 10 = .ok (.aload_n 1, 1) := by decide +kernel
theorem dX6_shortenBy_11 : decode cX6_shortenBy 11 = .ok (.iload_n 3, 1) := by decide +kernel
theorem dX6_shortenBy_12 : decode cX6_shortenBy 12 = .ok (.aaload, 1) := by decide +kernel
theorem dX6_shortenBy_13 : decode cX6_shortenBy 13 = .ok (.iload_n 2, 1) := by decide +kernel
theorem dX6_shortenBy_14 : decode cX6_shortenBy 14 = .ok (.iaload, 1) := by decide +kernel
theorem dX6_shortenBy_15 : decode cX6_shortenBy 15 = .ok (.istore 4, 2) := by decide +kernel
theorem dX6_shortenBy_17 : decode cX6_shortenBy 17 = .ok (.iconst 0, 1) := by decide +kernel
theorem dX6_shortenBy_18 : decode cX6_shortenBy 18 = .ok (.istore 5, 2) := by decide +kernel
theorem dX6_shortenBy_20 : decode cX6_shortenBy 20 = .ok (.iload 5, 2) := by decide +kernel
theorem dX6_shortenBy_22 : decode cX6_shortenBy 22 = .ok (.aload_n 0, 1) := by decide +kernel
theorem dX6_shortenBy_23 : decode cX6_shortenBy 23 = .ok (.getfield 26, 3) := by decide +kernel
theorem dX6_shortenBy_26 : decode cX6_shortenBy 26 = .ok (.if_icmp .ge 67, 3) := by decide +kernel
theorem dX6_shortenBy_29 : decode cX6_shortenBy 29 = .ok (.iload 4, 2) := by decide +kernel
theorem dX6_shortenBy_31 : decode cX6_shortenBy 31 = .ok (.bipush (-4), 2) := by decide +kernel
theorem dX6_shortenBy_33 : decode cX6_shortenBy 33 = .ok (.if_icmp .eq 60, 3) := by decide +kernel
theorem dX6_shortenBy_36 : decode cX6_shortenBy 36 = .ok (.aload_n 1, 1) := by decide +kernel
theorem dX6_shortenBy_37 : decode cX6_shortenBy 37 = .ok (.iload_n 2, 1) := by decide +kernel
theorem dX6_shortenBy_38 : decode cX6_shortenBy 38 = .ok (.aaload, 1) := by decide +kernel
theorem dX6_shortenBy_39 : decode cX6_shortenBy 39 = .ok (.iload 5, 2) := by decide +kernel
theorem dX6_shortenBy_41 : decode cX6_shortenBy 41 = .ok (.iaload, 1) := by decide +kernel
theorem dX6_shortenBy_42 : decode cX6_shortenBy 42 = .ok (.istore 6, 2) := by decide +kernel
theorem dX6_shortenBy_44 : decode cX6_shortenBy 44 = .ok (.iload 6, 2) := by decide +kernel
theorem dX6_shortenBy_46 : decode cX6_shortenBy 46 = .ok (.bipush (-4), 2) := by decide +kernel
theorem dX6_shortenBy_48 : decode cX6_shortenBy 48 = .ok (.if_icmp .eq 39, 3) := by decide +kernel
theorem dX6_shortenBy_51 : decode cX6_shortenBy 51 = .ok (.aload_n 1, 1) := by decide +kernel
theorem dX6_shortenBy_52 : decode cX6_shortenBy 52 = .ok (.iload_n 3, 1) := by decide +kernel
theorem dX6_shortenBy_53 : decode cX6_shortenBy 53 = .ok (.aaload, 1) := by decide +kernel
theorem dX6_shortenBy_54 : decode cX6_shortenBy 54 = .ok (.iload 5, 2) := by decide +kernel
theorem dX6_shortenBy_56 : decode cX6_shortenBy 56 = .ok (.iaload, 1) := by decide +kernel
theorem dX6_shortenBy_57 : decode cX6_shortenBy 57 = .ok (.bipush (-4), 2) := by decide +kernel
theorem dX6_shortenBy_59 : decode cX6_shortenBy 59 = .ok (.if_icmp .eq 17, 3) := by decide +kernel
theorem dX6_shortenBy_62 : decode cX6_shortenBy 62 = .ok (.iload 4, 2) := by decide +kernel
theorem dX6_shortenBy_64 : decode cX6_shortenBy 64 = .ok (.iload 6, 2) := by decide +kernel
theorem dX6_shortenBy_66 : decode cX6_shortenBy 66 = .ok (.iadd, 1) := by decide +kernel
theorem dX6_shortenBy_67 : decode cX6_shortenBy 67 = .ok (.aload_n 1, 1) := by decide +kernel
theorem dX6_shortenBy_68 : decode cX6_shortenBy 68 = .ok (.iload_n 3, 1) := by decide +kernel
theorem dX6_shortenBy_69 : decode cX6_shortenBy 69 = .ok (.aaload, 1) := by decide +kernel
theorem dX6_shortenBy_70 : decode cX6_shortenBy 70 = .ok (.iload 5, 2) := by decide +kernel
theorem dX6_shortenBy_72 : decode cX6_shortenBy 72 = .ok (.iaload, 1) := by decide +kernel
theorem dX6_shortenBy_73 : decode cX6_shortenBy 73 = .ok (.if_icmp .ge 14, 3) := by decide +kernel
theorem dX6_shortenBy_76 : decode cX6_shortenBy 76 = .ok (.aload_n 1, 1) := by decide +kernel
theorem dX6_shortenBy_77 : decode cX6_shortenBy 77 = .ok (.iload_n 3, 1) := by decide +kernel
theorem dX6_shortenBy_78 : decode cX6_shortenBy 78 = .ok (.aaload, 1) := by decide +kernel
theorem dX6_shortenBy_79 : decode cX6_shortenBy 79 = .ok (.iload 5, 2) := by decide +kernel
theorem dX6_shortenBy_81 : decode cX6_shortenBy 81 = .ok (.iload 4, 2) := by decide +kernel
theorem dX6_shortenBy_83 : decode cX6_shortenBy 83 = .ok (.iload 6, 2) := by decide +kernel
theorem dX6_shortenBy_85 : decode cX6_shortenBy 85 = .ok (.iadd, 1) := by decide +kernel
theorem dX6_shortenBy_86 : decode cX6_shortenBy 86 = .ok (.iastore, 1) := by decide +kernel
theorem dX6_shortenBy_87 : decode cX6_shortenBy 87 = .ok (.iinc 5 1, 3) := by decide +kernel
theorem dX6_shortenBy_90 : decode cX6_shortenBy 90 = .ok (.goto (-70), 3) := by decide +kernel
theorem dX6_shortenBy_93 : decode cX6_shortenBy 93 = .ok (.iinc 3 1, 3) := by decide +kernel
theorem dX6_shortenBy_96 : decode cX6_shortenBy 96 = .ok (.goto (-94), 3) := by decide +kernel
theorem dX6_shortenBy_99 : decode cX6_shortenBy 99 = .ok (.return_, 1) := by decide +kernel
theorem dX6_leadsOn_0 : decode cX6_leadsOn 0 = .ok (.aload_n 0, 1) := by decide +kernel
theorem dX6_leadsOn_1 : decode cX6_leadsOn 1 = .ok (.getfield 23, 3) := by decide +kernel
theorem dX6_leadsOn_4 : decode cX6_leadsOn 4 = .ok (.iload_n 1, 1) := by decide +kernel
theorem dX6_leadsOn_5 : decode cX6_leadsOn 5 = .ok (.aaload, 1) := by decide +kernel
theorem dX6_leadsOn_6 : decode cX6_leadsOn 6 = .ok (.iload_n 3, 1) := by decide +kernel
theorem dX6_leadsOn_7 : decode cX6_leadsOn 7 = .ok (.iaload, 1) := by decide +kernel
theorem dX6_leadsOn_8 : decode cX6_leadsOn 8 = .ok (.istore 4, 2) := by decide +kernel
theorem dX6_leadsOn_10 : decode cX6_leadsOn 10 = .ok (.aload_n 0, 1) := by decide +kernel
theorem dX6_leadsOn_11 : decode cX6_leadsOn 11 = .ok (.getfield 20, 3) := by decide +kernel
theorem dX6_leadsOn_14 : decode cX6_leadsOn 14 = .ok (.iload_n 1, 1) := by decide +kernel
theorem dX6_leadsOn_15 : decode cX6_leadsOn 15 = .ok (.aaload, 1) := by decide +kernel
theorem dX6_leadsOn_16 : decode cX6_leadsOn 16 = .ok (.iload_n 2, 1) := by decide +kernel
theorem dX6_leadsOn_17 : decode cX6_leadsOn 17 = .ok (.iaload, 1) := by decide +kernel
theorem dX6_leadsOn_18 : decode cX6_leadsOn 18 = .ok (.istore 5, 2) := by decide +kernel
theorem dX6_leadsOn_20 : decode cX6_leadsOn 20 = .ok (.iload 5, 2) := by decide +kernel
theorem dX6_leadsOn_22 : decode cX6_leadsOn 22 = .ok (.ifCond .le 30, 3) := by decide +kernel
theorem dX6_leadsOn_25 : decode cX6_leadsOn 25 = .ok (.iload 4, 2) := by decide +kernel
theorem dX6_leadsOn_27 : decode cX6_leadsOn 27 = .ok (.bipush (-4), 2) := by decide +kernel
theorem dX6_leadsOn_29 : decode cX6_leadsOn 29 = .ok (.if_icmp .eq 23, 3) := by decide +kernel
theorem dX6_leadsOn_32 : decode cX6_leadsOn 32 = .ok (.iload 4, 2) := by decide +kernel
theorem dX6_leadsOn_34 : decode cX6_leadsOn 34 = .ok (.iload 5, 2) := by decide +kernel
theorem dX6_leadsOn_36 : decode cX6_leadsOn 36 = .ok (.aload_n 0, 1) := by decide +kernel
theorem dX6_leadsOn_37 : decode cX6_leadsOn 37 = .ok (.getfield 23, 3) := by decide +kernel
theorem dX6_leadsOn_40 : decode cX6_leadsOn 40 = .ok (.iload_n 2, 1) := by decide +kernel
theorem dX6_leadsOn_41 : decode cX6_leadsOn 41 = .ok (.aaload, 1) := by decide +kernel
theorem dX6_leadsOn_42 : decode cX6_leadsOn 42 = .ok (.iload_n 3, 1) := by decide +kernel
theorem dX6_leadsOn_43 : decode cX6_leadsOn 43 = .ok (.iaload, 1) := by decide +kernel
theorem dX6_leadsOn_44 : decode cX6_leadsOn 44 = .ok (.iadd, 1) := by decide +kernel
theorem dX6_leadsOn_45 : decode cX6_leadsOn 45 = .ok (.if_icmp .ne 7, 3) := by decide +kernel
theorem dX6_leadsOn_48 : decode cX6_leadsOn 48 = .ok (.iconst 1, 1) := by decide +kernel
theorem dX6_leadsOn_49 : decode cX6_leadsOn 49 = .ok (.goto 4, 3) := by decide +kernel
theorem dX6_leadsOn_52 : decode cX6_leadsOn 52 = .ok (.iconst 0, 1) := by decide +kernel
theorem dX6_leadsOn_53 : decode cX6_leadsOn 53 = .ok (.ireturn, 1) := by decide +kernel
theorem dX6_towards_0 : decode cX6_towards 0 = .ok (.iconst 0, 1) := by decide +kernel
theorem dX6_towards_1 : decode cX6_towards 1 = .ok (.istore_n 3, 1) := by decide +kernel
theorem dX6_towards_2 : decode cX6_towards 2 = .ok (.iload_n 3, 1) := by decide +kernel
theorem dX6_towards_3 : decode cX6_towards 3 = .ok (.aload_n 0, 1) := by decide +kernel
theorem dX6_towards_4 : decode cX6_towards 4 = .ok (.getfield 26, 3) := by decide +kernel
theorem dX6_towards_7 : decode cX6_towards 7 = .ok (.if_icmp .ge 21, 3) := by decide +kernel
theorem dX6_towards_10 : decode cX6_towards 10 = .ok (.aload_n 0, 1) := by decide +kernel
theorem dX6_towards_11 : decode cX6_towards 11 = .ok (.iload_n 1, 1) := by decide +kernel
theorem dX6_towards_12 : decode cX6_towards 12 = .ok (.iload_n 3, 1) := by decide +kernel
theorem dX6_towards_13 : decode cX6_towards 13 = .ok (.iload_n 2, 1) := by decide +kernel
theorem dX6_towards_14 : decode cX6_towards 14 = .ok (.invokevirtual 43, 3) := by decide +kernel
theorem dX6_towards_17 : decode cX6_towards 17 = .ok (.ifCond .eq 5, 3) := by decide +kernel
theorem dX6_towards_20 : decode cX6_towards 20 = .ok (.iload_n 3, 1) := by decide +kernel
theorem dX6_towards_21 : decode cX6_towards 21 = .ok (.ireturn, 1) := by decide +kernel
theorem dX6_towards_22 : decode cX6_towards 22 = .ok (.iinc 3 1, 3) := by decide +kernel
theorem dX6_towards_25 : decode cX6_towards 25 = .ok (.goto (-23), 3) := by decide +kernel
theorem dX6_towards_28 : decode cX6_towards 28 = .ok (.iconst (-1), 1) := by decide +kernel
theorem dX6_towards_29 : decode cX6_towards 29 = .ok (.ireturn, 1) := by decide +kernel
theorem dX6_firstBut_0 : decode cX6_firstBut 0 = .ok (.iconst 0, 1) := by decide +kernel
theorem dX6_firstBut_1 : decode cX6_firstBut 1 = .ok (.istore_n 3, 1) := by decide +kernel
theorem dX6_firstBut_2 : decode cX6_firstBut 2 = .ok (.iload_n 3, 1) := by decide +kernel
theorem dX6_firstBut_3 : decode cX6_firstBut 3 = .ok (.aload_n 0, 1) := by decide +kernel
theorem dX6_firstBut_4 : decode cX6_firstBut 4 = .ok (.getfield 26, 3) := by decide +kernel
theorem dX6_firstBut_7 : decode cX6_firstBut 7 = .ok (.if_icmp .ge 27, 3) := by decide +kernel
theorem dX6_firstBut_10 : decode cX6_firstBut 10 = .ok (.iload_n 3, 1) := by decide +kernel
theorem dX6_firstBut_11 : decode cX6_firstBut 11 = .ok (.iload_n 2, 1) := by decide +kernel
theorem dX6_firstBut_12 : decode cX6_firstBut 12 = .ok (.if_icmp .eq 16, 3) := by decide +kernel
theorem dX6_firstBut_15 : decode cX6_firstBut 15 = .ok (.aload_n 0, 1) := by decide +kernel
theorem dX6_firstBut_16 : decode cX6_firstBut 16 = .ok (.getfield 20, 3) := by decide +kernel
theorem dX6_firstBut_19 : decode cX6_firstBut 19 = .ok (.iload_n 1, 1) := by decide +kernel
theorem dX6_firstBut_20 : decode cX6_firstBut 20 = .ok (.aaload, 1) := by decide +kernel
theorem dX6_firstBut_21 : decode cX6_firstBut 21 = .ok (.iload_n 3, 1) := by decide +kernel
theorem dX6_firstBut_22 : decode cX6_firstBut 22 = .ok (.iaload, 1) := by decide +kernel
theorem dX6_firstBut_23 : decode cX6_firstBut 23 = .ok (.ifCond .le 5, 3) := by decide +kernel
theorem dX6_firstBut_26 : decode cX6_firstBut 26 = .ok (.iload_n 3, 1) := by decide +kernel
theorem dX6_firstBut_27 : decode cX6_firstBut 27 = .ok (.ireturn, 1) := by decide +kernel
theorem dX6_firstBut_28 : decode cX6_firstBut 28 = .ok (.iinc 3 1, 3) := by decide +kernel
theorem dX6_firstBut_31 : decode cX6_firstBut 31 = .ok (.goto (-29), 3) := by decide +kernel
theorem dX6_firstBut_34 : decode cX6_firstBut 34 = .ok (.iload_n 2, 1) := by decide +kernel
theorem dX6_firstBut_35 : decode cX6_firstBut 35 = .ok (.ireturn, 1) := by decide +kernel
theorem dX6_lastBut_0 : decode cX6_lastBut 0 = .ok (.aload_n 0, 1) := by decide +kernel
theorem dX6_lastBut_1 : decode cX6_lastBut 1 = .ok (.getfield 26, 3) := by decide +kernel
theorem dX6_lastBut_4 : decode cX6_lastBut 4 = .ok (.iconst 1, 1) := by decide +kernel
theorem dX6_lastBut_5 : decode cX6_lastBut 5 = .ok (.isub, 1) := by decide +kernel
theorem dX6_lastBut_6 : decode cX6_lastBut 6 = .ok (.istore_n 3, 1) := by decide +kernel
theorem dX6_lastBut_7 : decode cX6_lastBut 7 = .ok (.iload_n 3, 1) := by decide +kernel
theorem dX6_lastBut_8 : decode cX6_lastBut 8 = .ok (.ifCond .lt 27, 3) := by decide +kernel
theorem dX6_lastBut_11 : decode cX6_lastBut 11 = .ok (.iload_n 3, 1) := by decide +kernel
theorem dX6_lastBut_12 : decode cX6_lastBut 12 = .ok (.iload_n 2, 1) := by decide +kernel
theorem dX6_lastBut_13 : decode cX6_lastBut 13 = .ok (.if_icmp .eq 16, 3) := by decide +kernel
theorem dX6_lastBut_16 : decode cX6_lastBut 16 = .ok (.aload_n 0, 1) := by decide +kernel
theorem dX6_lastBut_17 : decode cX6_lastBut 17 = .ok (.getfield 20, 3) := by decide +kernel
theorem dX6_lastBut_20 : decode cX6_lastBut 20 = .ok (.iload_n 1, 1) := by decide +kernel
theorem dX6_lastBut_21 : decode cX6_lastBut 21 = .ok (.aaload, 1) := by decide +kernel
theorem dX6_lastBut_22 : decode cX6_lastBut 22 = .ok (.iload_n 3, 1) := by decide +kernel
theorem dX6_lastBut_23 : decode cX6_lastBut 23 = .ok (.iaload, 1) := by decide +kernel
theorem dX6_lastBut_24 : decode cX6_lastBut 24 = .ok (.ifCond .le 5, 3) := by decide +kernel
theorem dX6_lastBut_27 : decode cX6_lastBut 27 = .ok (.iload_n 3, 1) := by decide +kernel
theorem dX6_lastBut_28 : decode cX6_lastBut 28 = .ok (.ireturn, 1) := by decide +kernel
theorem dX6_lastBut_29 : decode cX6_lastBut 29 = .ok (.iinc 3 (-1), 3) := by decide +kernel
theorem dX6_lastBut_32 : decode cX6_lastBut 32 = .ok (.goto (-25), 3) := by decide +kernel
theorem dX6_lastBut_35 : decode cX6_lastBut 35 = .ok (.iload_n 2, 1) := by decide +kernel
theorem dX6_lastBut_36 : decode cX6_lastBut 36 = .ok (.ireturn, 1) := by decide +kernel
theorem dX7_init_0 : decode cX7_init 0 = .ok (.aload_n 0, 1) := by decide +kernel
theorem dX7_init_1 : decode cX7_init 1 = .ok (.invokespecial 3, 3) := by decide +kernel
theorem dX7_init_4 : decode cX7_init 4 = .ok (.aload_n 0, 1) := by decide +kernel
theorem dX7_init_5 : decode cX7_init 5 = .ok (.sipush 200, 3) := by decide +kernel
theorem dX7_init_8 : decode cX7_init 8 = .ok (.newarray .char, 2) := by decide +kernel
theorem dX7_init_10 : decode cX7_init 10 = .ok (.putfield 9, 3) := by decide +kernel
theorem dX7_init_13 : decode cX7_init 13 = .ok (.return_, 1) := by decide +kernel
theorem dX7_append_0 : decode cX7_append 0 = .ok (.aload_n 0, 1) := by decide +kernel
theorem dX7_append_1 : decode cX7_append 1 = .ok (.getfield 15, 3) := by decide +kernel
theorem dX7_append_4 : decode cX7_append 4 = .ok (.sipush 200, 3) := by decide +kernel
theorem dX7_append_7 : decode cX7_append 7 = .ok (.if_icmp .ge 24, 3) := by decide +kernel
theorem dX7_append_10 : decode cX7_append 10 = .ok (.aload_n 0, 1) := by decide +kernel
theorem dX7_append_11 : decode cX7_append 11 = .ok (.getfield 9, 3) := by decide +kernel
theorem dX7_append_14 : decode cX7_append 14 = .ok (.aload_n 0, 1) := by decide +kernel
theorem dX7_append_15 : decode cX7_append 15 = .ok (.getfield 15, 3) := by decide +kernel
theorem dX7_append_18 : decode cX7_append 18 = .ok (.iload_n 1, 1) := by decide +kernel
theorem dX7_append_19 : decode cX7_append 19 = .ok (.i2c, 1) := by decide +kernel
theorem dX7_append_20 : decode cX7_append 20 = .ok (.castore, 1) := by decide +kernel
theorem dX7_append_21 : decode cX7_append 21 = .ok (.aload_n 0, 1) := by decide +kernel
theorem dX7_append_22 : decode cX7_append 22 = .ok (.dup, 1) := by decide +kernel
theorem dX7_append_23 : decode cX7_append 23 = .ok (.getfield 15, 3) := by decide +kernel
theorem dX7_append_26 : decode cX7_append 26 = .ok (.iconst 1, 1) := by decide +kernel
theorem dX7_append_27 : decode cX7_append 27 = .ok (.iadd, 1) := by decide +kernel
theorem dX7_append_28 : decode cX7_append 28 = .ok (.putfield 15, 3) := by decide +kernel
theorem dX7_append_31 : decode cX7_append 31 = .ok (.return_, 1) := by decide +kernel
theorem dX7_letterAt_0 : decode cX7_letterAt 0 = .ok (.iload_n 1, 1) := by decide +kernel
theorem dX7_letterAt_1 : decode cX7_letterAt 1 = .ok (.ifCond .lt 20, 3) := by decide +kernel
theorem dX7_letterAt_4 : decode cX7_letterAt 4 = .ok (.iload_n 1, 1) := by decide +kernel
theorem dX7_letterAt_5 : decode cX7_letterAt 5 = .ok (.aload_n 0, 1) := by decide +kernel
theorem dX7_letterAt_6 : decode cX7_letterAt 6 = .ok (.getfield 15, 3) := by decide +kernel
theorem dX7_letterAt_9 : decode cX7_letterAt 9 = .ok (.if_icmp .ge 12, 3) := by decide +kernel
theorem dX7_letterAt_12 : decode cX7_letterAt 12 = .ok (.aload_n 0, 1) := by decide +kernel
theorem dX7_letterAt_13 : decode cX7_letterAt 13 = .ok (.getfield 9, 3) := by decide +kernel
theorem dX7_letterAt_16 : decode cX7_letterAt 16 = .ok (.iload_n 1, 1) := by decide +kernel
theorem dX7_letterAt_17 : decode cX7_letterAt 17 = .ok (.caload, 1) := by decide +kernel
theorem dX7_letterAt_18 : decode cX7_letterAt 18 = .ok (.goto 5, 3) := by decide +kernel
theorem dX7_letterAt_21 : decode cX7_letterAt 21 = .ok (.bipush (-4), 2) := by decide +kernel
theorem dX7_letterAt_23 : decode cX7_letterAt 23 = .ok (.ireturn, 1) := by decide +kernel
theorem dX8_init_0 : decode cX8_init 0 = .ok (.aload_n 0, 1) := by decide +kernel
theorem dX8_init_1 : decode cX8_init 1 = .ok (.invokespecial 3, 3) := by decide +kernel
theorem dX8_init_4 : decode cX8_init 4 = .ok (.aload_n 0, 1) := by decide +kernel
theorem dX8_init_5 : decode cX8_init 5 = .ok (.new 9, 3) := by decide +kernel
theorem dX8_init_8 : decode cX8_init 8 = .ok (.dup, 1) := by decide +kernel
theorem dX8_init_9 : decode cX8_init 9 = .ok (.invokespecial 11, 3) := by decide +kernel
theorem dX8_init_12 : decode cX8_init 12 = .ok (.putfield 12, 3) := by decide +kernel
theorem dX8_init_15 : decode cX8_init 15 = .ok (.aload_n 0, 1) := by decide +kernel
theorem dX8_init_16 : decode cX8_init 16 = .ok (.new 18, 3) := by decide +kernel
theorem dX8_init_19 : decode cX8_init 19 = .ok (.dup, 1) := by decide +kernel
theorem dX8_init_20 : decode cX8_init 20 = .ok (.invokespecial 20, 3) := by decide +kernel
theorem dX8_init_23 : decode cX8_init 23 = .ok (.putfield 21, 3) := by decide +kernel
theorem dX8_init_26 : decode cX8_init 26 = .ok (.aload_n 0, 1) := by decide +kernel
theorem dX8_init_27 : decode cX8_init 27 = .ok (.new 25, 3) := by decide +kernel
theorem dX8_init_30 : decode cX8_init 30 = .ok (.dup, 1) := by decide +kernel
theorem dX8_init_31 : decode cX8_init 31 = .ok (.invokespecial 27, 3) := by decide +kernel
theorem dX8_init_34 : decode cX8_init 34 = .ok (.putfield 28, 3) := by decide +kernel
theorem dX8_init_37 : decode cX8_init 37 = .ok (.return_, 1) := by decide +kernel
theorem dX8_clear_0 : decode cX8_clear 0 = .ok (.aload_n 0, 1) := by decide +kernel
theorem dX8_clear_1 : decode cX8_clear 1 = .ok (.getfield 12, 3) := by decide +kernel
theorem dX8_clear_4 : decode cX8_clear 4 = .ok (.invokevirtual 32, 3) := by decide +kernel
theorem dX8_clear_7 : decode cX8_clear 7 = .ok (.aload_n 0, 1) := by decide +kernel
theorem dX8_clear_8 : decode cX8_clear 8 = .ok (.getfield 21, 3) := by decide +kernel
theorem dX8_clear_11 : decode cX8_clear 11 = .ok (.iconst 0, 1) := by decide +kernel
theorem dX8_clear_12 : decode cX8_clear 12 = .ok (.putfield 35, 3) := by decide +kernel
theorem dX8_clear_15 : decode cX8_clear 15 = .ok (.aload_n 0, 1) := by decide +kernel
theorem dX8_clear_16 : decode cX8_clear 16 = .ok (.getfield 28, 3) := by decide +kernel
theorem dX8_clear_19 : decode cX8_clear 19 = .ok (.iconst 0, 1) := by decide +kernel
theorem dX8_clear_20 : decode cX8_clear 20 = .ok (.putfield 39, 3) := by decide +kernel
theorem dX8_clear_23 : decode cX8_clear 23 = .ok (.aload_n 0, 1) := by decide +kernel
theorem dX8_clear_24 : decode cX8_clear 24 = .ok (.iconst 2, 1) := by decide +kernel
theorem dX8_clear_25 : decode cX8_clear 25 = .ok (.putfield 40, 3) := by decide +kernel
theorem dX8_clear_28 : decode cX8_clear 28 = .ok (.aload_n 0, 1) := by decide +kernel
theorem dX8_clear_29 : decode cX8_clear 29 = .ok (.iconst 3, 1) := by decide +kernel
theorem dX8_clear_30 : decode cX8_clear 30 = .ok (.putfield 43, 3) := by decide +kernel
theorem dX8_clear_33 : decode cX8_clear 33 = .ok (.aload_n 0, 1) := by decide +kernel
theorem dX8_clear_34 : decode cX8_clear 34 = .ok (.iconst 1, 1) := by decide +kernel
theorem dX8_clear_35 : decode cX8_clear 35 = .ok (.putfield 46, 3) := by decide +kernel
theorem dX8_clear_38 : decode cX8_clear 38 = .ok (.return_, 1) := by decide +kernel
theorem dX8_minutesToAims_0 : decode cX8_minutesToAims 0 = .ok (.iconst 0, 1) := by decide +kernel
theorem dX8_minutesToAims_1 : decode cX8_minutesToAims 1 = .ok (.istore_n 2, 1) := by decide +kernel
theorem dX8_minutesToAims_2 : decode cX8_minutesToAims 2 = .ok (.iconst 0, 1) := by decide +kernel
theorem dX8_minutesToAims_3 : decode cX8_minutesToAims 3 = .ok (.istore_n 3, 1) := by decide +kernel
theorem dX8_minutesToAims_4 : decode cX8_minutesToAims 4 = .ok (.iload_n 3, 1) := by decide +kernel
theorem dX8_minutesToAims_5 : decode cX8_minutesToAims 5 = .ok (.aload_n 0, 1) := by decide +kernel
theorem dX8_minutesToAims_6 : decode cX8_minutesToAims 6 = .ok (.getfield 28, 3) := by decide +kernel
theorem dX8_minutesToAims_9 : decode cX8_minutesToAims 9 = .ok (.getfield 39, 3) := by decide +kernel
theorem dX8_minutesToAims_12 : decode cX8_minutesToAims 12 = .ok (.if_icmp .ge 50, 3) := by decide +kernel
theorem dX8_minutesToAims_15 : decode cX8_minutesToAims 15 = .ok (.aload_n 1, 1) := by decide +kernel
theorem dX8_minutesToAims_16 : decode cX8_minutesToAims 16 = .ok (.aload_n 0, 1) := by decide +kernel
theorem dX8_minutesToAims_17 : decode cX8_minutesToAims 17 = .ok (.getfield 28, 3) := by decide +kernel
theorem dX8_minutesToAims_20 : decode cX8_minutesToAims 20 = .ok (.getfield 49, 3) := by decide +kernel
theorem dX8_minutesToAims_23 : decode cX8_minutesToAims 23 = .ok (.iload_n 3, 1) := by decide +kernel
theorem dX8_minutesToAims_24 : decode cX8_minutesToAims 24 = .ok (.iaload, 1) := by decide +kernel
theorem dX8_minutesToAims_25 : decode cX8_minutesToAims 25 = .ok (.aaload, 1) := by decide +kernel
theorem dX8_minutesToAims_26 : decode cX8_minutesToAims 26 = .ok (.aload_n 0, 1) := by decide +kernel
theorem dX8_minutesToAims_27 : decode cX8_minutesToAims 27 = .ok (.getfield 28, 3) := by decide +kernel
theorem dX8_minutesToAims_30 : decode cX8_minutesToAims 30 = .ok (.getfield 53, 3) := by decide +kernel
theorem dX8_minutesToAims_33 : decode cX8_minutesToAims 33 = .ok (.iload_n 3, 1) := by decide +kernel
theorem dX8_minutesToAims_34 : decode cX8_minutesToAims 34 = .ok (.iaload, 1) := by decide +kernel
theorem dX8_minutesToAims_35 : decode cX8_minutesToAims 35 = .ok (.iaload, 1) := by decide +kernel
theorem dX8_minutesToAims_36 : decode cX8_minutesToAims 36 = .ok (.istore 4, 2) := by decide +kernel
theorem dX8_minutesToAims_38 : decode cX8_minutesToAims 38 = .ok (.iload_n 2, 1) := by decide +kernel
theorem dX8_minutesToAims_39 : decode cX8_minutesToAims 39 = .ok (.iload 4, 2) := by decide +kernel
theorem dX8_minutesToAims_41 : decode cX8_minutesToAims 41 = .ok (.bipush (-4), 2) := by decide +kernel
theorem dX8_minutesToAims_43 : decode cX8_minutesToAims 43 = .ok (.if_icmp .ne 9, 3) := by decide +kernel
theorem dX8_minutesToAims_46 : decode cX8_minutesToAims 46 = .ok (.sipush 200, 3) := by decide +kernel
theorem dX8_minutesToAims_49 : decode cX8_minutesToAims 49 = .ok (.goto 5, 3) := by decide +kernel
theorem dX8_minutesToAims_52 : decode cX8_minutesToAims 52 = .ok (.iload 4, 2) := by decide +kernel
theorem dX8_minutesToAims_54 : decode cX8_minutesToAims 54 = .ok (.iadd, 1) := by decide +kernel
theorem dX8_minutesToAims_55 : decode cX8_minutesToAims 55 = .ok (.istore_n 2, 1) := by decide +kernel
theorem dX8_minutesToAims_56 : decode cX8_minutesToAims 56 = .ok (.iinc 3 1, 3) := by decide +kernel
theorem dX8_minutesToAims_59 : decode cX8_minutesToAims 59 = .ok (.goto (-55), 3) := by decide +kernel
theorem dX8_minutesToAims_62 : decode cX8_minutesToAims 62 = .ok (.iload_n 2, 1) := by decide +kernel
theorem dX8_minutesToAims_63 : decode cX8_minutesToAims 63 = .ok (.ireturn, 1) := by decide +kernel
theorem dX9_init_0 : decode cX9_init 0 = .ok (.aload_n 0, 1) := by decide +kernel
theorem dX9_init_1 : decode cX9_init 1 = .ok (.invokespecial 3, 3) := by decide +kernel
theorem dX9_init_4 : decode cX9_init 4 = .ok (.aload_n 0, 1) := by decide +kernel
theorem dX9_init_5 : decode cX9_init 5 = .ok (.bipush 31, 2) := by decide +kernel
theorem dX9_init_7 : decode cX9_init 7 = .ok (.newarray .int, 2) := by decide +kernel
theorem dX9_init_9 : decode cX9_init 9 = .ok (.putfield 9, 3) := by decide +kernel
theorem dX9_init_12 : decode cX9_init 12 = .ok (.aload_n 0, 1) := by decide +kernel
theorem dX9_init_13 : decode cX9_init 13 = .ok (.bipush 30, 2) := by decide +kernel
theorem dX9_init_15 : decode cX9_init 15 = .ok (.newarray .boolean, 2) := by decide +kernel
theorem dX9_init_17 : decode cX9_init 17 = .ok (.putfield 15, 3) := by decide +kernel
theorem dX9_init_20 : decode cX9_init 20 = .ok (.return_, 1) := by decide +kernel
theorem dX9_make_0 : decode cX9_make 0 = .ok (.aload_n 0, 1) := by decide +kernel
theorem dX9_make_1 : decode cX9_make 1 = .ok (.iconst 0, 1) := by decide +kernel
theorem dX9_make_2 : decode cX9_make 2 = .ok (.putfield 19, 3) := by decide +kernel
theorem dX9_make_5 : decode cX9_make 5 = .ok (.aload_n 0, 1) := by decide +kernel
theorem dX9_make_6 : decode cX9_make 6 = .ok (.iconst 0, 1) := by decide +kernel
theorem dX9_make_7 : decode cX9_make 7 = .ok (.putfield 23, 3) := by decide +kernel
theorem dX9_make_10 : decode cX9_make 10 = .ok (.aload_n 0, 1) := by decide +kernel
theorem dX9_make_11 : decode cX9_make 11 = .ok (.iconst 0, 1) := by decide +kernel
theorem dX9_make_12 : decode cX9_make 12 = .ok (.putfield 26, 3) := by decide +kernel
theorem dX9_make_15 : decode cX9_make 15 = .ok (.aload_n 0, 1) := by decide +kernel
theorem dX9_make_16 : decode cX9_make 16 = .ok (.iconst 0, 1) := by decide +kernel
theorem dX9_make_17 : decode cX9_make 17 = .ok (.putfield 29, 3) := by decide +kernel
theorem dX9_make_20 : decode cX9_make 20 = .ok (.aload_n 0, 1) := by decide +kernel
theorem dX9_make_21 : decode cX9_make 21 = .ok (.getfield 9, 3) := by decide +kernel
theorem dX9_make_24 : decode cX9_make 24 = .ok (.iconst 0, 1) := by decide +kernel
theorem dX9_make_25 : decode cX9_make 25 = .ok (.iload 4, 2) := by decide +kernel
theorem dX9_make_27 : decode cX9_make 27 = .ok (.iastore, 1) := by decide +kernel
theorem dX9_make_28 : decode cX9_make 28 = .ok (.iconst (-1), 1) := by decide +kernel
theorem dX9_make_29 : decode cX9_make 29 = .ok (.istore 7, 2) := by decide +kernel
theorem dX9_make_31 : decode cX9_make 31 = .ok (.iload 4, 2) := by decide +kernel
theorem dX9_make_33 : decode cX9_make 33 = .ok (.istore 8, 2) := by decide +kernel
theorem dX9_make_35 : decode cX9_make 35 = .ok (.iconst 0, 1) := by decide +kernel
theorem dX9_make_36 : decode cX9_make 36 = .ok (.istore 9, 2) := by decide +kernel
theorem dX9_make_38 : decode cX9_make 38 = .ok (.iload 9, 2) := by decide +kernel
theorem dX9_make_40 : decode cX9_make 40 = .ok (.bipush 30, 2) := by decide +kernel
theorem dX9_make_42 : decode cX9_make 42 = .ok (.if_icmp .ge 196, 3) := by decide +kernel
theorem dX9_make_45 : decode cX9_make 45 = .ok (.iload 8, 2) := by decide +kernel
theorem dX9_make_47 : decode cX9_make 47 = .ok (.iload 5, 2) := by decide +kernel
theorem dX9_make_49 : decode cX9_make 49 = .ok (.if_icmp .eq 189, 3) := by decide +kernel
theorem dX9_make_52 : decode cX9_make 52 = .ok (.aload_n 1, 1) := by decide +kernel
theorem dX9_make_53 : decode cX9_make 53 = .ok (.getfield 32, 3) := by decide +kernel
theorem dX9_make_56 : decode cX9_make 56 = .ok (.aload_n 2, 1) := by decide +kernel
theorem dX9_make_57 : decode cX9_make 57 = .ok (.iload_n 3, 1) := by decide +kernel
theorem dX9_make_58 : decode cX9_make 58 = .ok (.iload 8, 2) := by decide +kernel
theorem dX9_make_60 : decode cX9_make 60 = .ok (.iload 7, 2) := by decide +kernel
theorem dX9_make_62 : decode cX9_make 62 = .ok (.iload 5, 2) := by decide +kernel
theorem dX9_make_64 : decode cX9_make 64 = .ok (.invokestatic 38, 3) := by decide +kernel
theorem dX9_make_67 : decode cX9_make 67 = .ok (.istore 10, 2) := by decide +kernel
theorem dX9_make_69 : decode cX9_make 69 = .ok (.iload 10, 2) := by decide +kernel
theorem dX9_make_71 : decode cX9_make 71 = .ok (.iconst (-1), 1) := by decide +kernel
theorem dX9_make_72 : decode cX9_make 72 = .ok (.if_icmp .ne 6, 3) := by decide +kernel
theorem dX9_make_75 : decode cX9_make 75 = .ok (.goto 163, 3) := by decide +kernel
theorem dX9_make_78 : decode cX9_make 78 = .ok (.iload_n 3, 1) := by decide +kernel
theorem dX9_make_79 : decode cX9_make 79 = .ok (.iconst 2, 1) := by decide +kernel
theorem dX9_make_80 : decode cX9_make 80 = .ok (.if_icmp .ne 26, 3) := by decide +kernel
theorem dX9_make_83 : decode cX9_make 83 = .ok (.aload_n 0, 1) := by decide +kernel
theorem dX9_make_84 : decode cX9_make 84 = .ok (.dup, 1) := by decide +kernel
theorem dX9_make_85 : decode cX9_make 85 = .ok (.getfield 23, 3) := by decide +kernel
theorem dX9_make_88 : decode cX9_make 88 = .ok (.iconst 1, 1) := by decide +kernel
theorem dX9_make_89 : decode cX9_make 89 = .ok (.iadd, 1) := by decide +kernel
theorem dX9_make_90 : decode cX9_make 90 = .ok (.putfield 23, 3) := by decide +kernel
theorem dX9_make_93 : decode cX9_make 93 = .ok (.aload_n 0, 1) := by decide +kernel
theorem dX9_make_94 : decode cX9_make 94 = .ok (.dup, 1) := by decide +kernel
theorem dX9_make_95 : decode cX9_make 95 = .ok (.getfield 29, 3) := by decide +kernel
theorem dX9_make_98 : decode cX9_make 98 = .ok (.aload_n 1, 1) := by decide +kernel
theorem dX9_make_99 : decode cX9_make 99 = .ok (.getfield 42, 3) := by decide +kernel
theorem dX9_make_102 : decode cX9_make 102 = .ok (.iadd, 1) := by decide +kernel
theorem dX9_make_103 : decode cX9_make 103 = .ok (.putfield 29, 3) := by decide +kernel
theorem dX9_make_106 : decode cX9_make 106 = .ok (.aload_n 0, 1) := by decide +kernel
theorem dX9_make_107 : decode cX9_make 107 = .ok (.dup, 1) := by decide +kernel
theorem dX9_make_108 : decode cX9_make 108 = .ok (.getfield 23, 3) := by decide +kernel
theorem dX9_make_111 : decode cX9_make 111 = .ok (.aload_n 1, 1) := by decide +kernel
theorem dX9_make_112 : decode cX9_make 112 = .ok (.getfield 32, 3) := by decide +kernel
theorem dX9_make_115 : decode cX9_make 115 = .ok (.getfield 45, 3) := by decide +kernel
theorem dX9_make_118 : decode cX9_make 118 = .ok (.iload 8, 2) := by decide +kernel
theorem dX9_make_120 : decode cX9_make 120 = .ok (.aaload, 1) := by decide +kernel
theorem dX9_make_121 : decode cX9_make 121 = .ok (.iload 10, 2) := by decide +kernel
theorem dX9_make_123 : decode cX9_make 123 = .ok (.iaload, 1) := by decide +kernel
theorem dX9_make_124 : decode cX9_make 124 = .ok (.iadd, 1) := by decide +kernel
theorem dX9_make_125 : decode cX9_make 125 = .ok (.putfield 23, 3) := by decide +kernel
theorem dX9_make_128 : decode cX9_make 128 = .ok (.aload_n 0, 1) := by decide +kernel
theorem dX9_make_129 : decode cX9_make 129 = .ok (.getfield 15, 3) := by decide +kernel
theorem dX9_make_132 : decode cX9_make 132 = .ok (.iload 9, 2) := by decide +kernel
theorem dX9_make_134 : decode cX9_make 134 = .ok (.aload_n 1, 1) := by decide +kernel
theorem dX9_make_135 : decode cX9_make 135 = .ok (.getfield 32, 3) := by decide +kernel
theorem dX9_make_138 : decode cX9_make 138 = .ok (.iload 8, 2) := by decide +kernel
theorem dX9_make_140 : decode cX9_make 140 = .ok (.iload 10, 2) := by decide +kernel
theorem dX9_make_142 : decode cX9_make 142 = .ok (.iload 6, 2) := by decide +kernel
theorem dX9_make_144 : decode cX9_make 144 = .ok (.invokevirtual 51, 3) := by decide +kernel
theorem dX9_make_147 : decode cX9_make 147 = .ok (.ifCond .ne 7, 3) := by decide +kernel
theorem dX9_make_150 : decode cX9_make 150 = .ok (.iconst 1, 1) := by decide +kernel
theorem dX9_make_151 : decode cX9_make 151 = .ok (.goto 4, 3) := by decide +kernel
theorem dX9_make_154 : decode cX9_make 154 = .ok (.iconst 0, 1) := by decide +kernel
theorem dX9_make_155 : decode cX9_make 155 = .ok (.bastore, 1) := by decide +kernel
theorem dX9_make_156 : decode cX9_make 156 = .ok (.aload_n 0, 1) := by decide +kernel
theorem dX9_make_157 : decode cX9_make 157 = .ok (.getfield 15, 3) := by decide +kernel
theorem dX9_make_160 : decode cX9_make 160 = .ok (.iload 9, 2) := by decide +kernel
theorem dX9_make_162 : decode cX9_make 162 = .ok (.baload, 1) := by decide +kernel
theorem dX9_make_163 : decode cX9_make 163 = .ok (.ifCond .eq 42, 3) := by decide +kernel
theorem dX9_make_166 : decode cX9_make 166 = .ok (.aload_n 0, 1) := by decide +kernel
theorem dX9_make_167 : decode cX9_make 167 = .ok (.dup, 1) := by decide +kernel
theorem dX9_make_168 : decode cX9_make 168 = .ok (.getfield 26, 3) := by decide +kernel
theorem dX9_make_171 : decode cX9_make 171 = .ok (.iconst 1, 1) := by decide +kernel
theorem dX9_make_172 : decode cX9_make 172 = .ok (.iadd, 1) := by decide +kernel
theorem dX9_make_173 : decode cX9_make 173 = .ok (.putfield 26, 3) := by decide +kernel
theorem dX9_make_176 : decode cX9_make 176 = .ok (.aload_n 0, 1) := by decide +kernel
theorem dX9_make_177 : decode cX9_make 177 = .ok (.dup, 1) := by decide +kernel
theorem dX9_make_178 : decode cX9_make 178 = .ok (.getfield 29, 3) := by decide +kernel
theorem dX9_make_181 : decode cX9_make 181 = .ok (.aload_n 1, 1) := by decide +kernel
theorem dX9_make_182 : decode cX9_make 182 = .ok (.getfield 55, 3) := by decide +kernel
theorem dX9_make_185 : decode cX9_make 185 = .ok (.iload 10, 2) := by decide +kernel
theorem dX9_make_187 : decode cX9_make 187 = .ok (.iload 7, 2) := by decide +kernel
theorem dX9_make_189 : decode cX9_make 189 = .ok (.if_icmp .ne 10, 3) := by decide +kernel
theorem dX9_make_192 : decode cX9_make 192 = .ok (.aload_n 1, 1) := by decide +kernel
theorem dX9_make_193 : decode cX9_make 193 = .ok (.getfield 58, 3) := by decide +kernel
theorem dX9_make_196 : decode cX9_make 196 = .ok (.goto 4, 3) := by decide +kernel
theorem dX9_make_199 : decode cX9_make 199 = .ok (.iconst 0, 1) := by decide +kernel
theorem dX9_make_200 : decode cX9_make 200 = .ok (.iadd, 1) := by decide +kernel
theorem dX9_make_201 : decode cX9_make 201 = .ok (.iadd, 1) := by decide +kernel
theorem dX9_make_202 : decode cX9_make 202 = .ok (.putfield 29, 3) := by decide +kernel
theorem dX9_make_205 : decode cX9_make 205 = .ok (.iload 8, 2) := by decide +kernel
theorem dX9_make_207 : decode cX9_make 207 = .ok (.istore 7, 2) := by decide +kernel
theorem dX9_make_209 : decode cX9_make 209 = .ok (.iload 10, 2) := by decide +kernel
theorem dX9_make_211 : decode cX9_make 211 = .ok (.istore 8, 2) := by decide +kernel
theorem dX9_make_213 : decode cX9_make 213 = .ok (.aload_n 0, 1) := by decide +kernel
theorem dX9_make_214 : decode cX9_make 214 = .ok (.iload 9, 2) := by decide +kernel
theorem dX9_make_216 : decode cX9_make 216 = .ok (.iconst 1, 1) := by decide +kernel
theorem dX9_make_217 : decode cX9_make 217 = .ok (.iadd, 1) := by decide +kernel
theorem dX9_make_218 : decode cX9_make 218 = .ok (.putfield 19, 3) := by decide +kernel
theorem dX9_make_221 : decode cX9_make 221 = .ok (.aload_n 0, 1) := by decide +kernel
theorem dX9_make_222 : decode cX9_make 222 = .ok (.getfield 9, 3) := by decide +kernel
theorem dX9_make_225 : decode cX9_make 225 = .ok (.aload_n 0, 1) := by decide +kernel
theorem dX9_make_226 : decode cX9_make 226 = .ok (.getfield 19, 3) := by decide +kernel
theorem dX9_make_229 : decode cX9_make 229 = .ok (.iload 8, 2) := by decide +kernel
theorem dX9_make_231 : decode cX9_make 231 = .ok (.iastore, 1) := by decide +kernel
theorem dX9_make_232 : decode cX9_make 232 = .ok (.iinc 9 1, 3) := by decide +kernel
theorem dX9_make_235 : decode cX9_make 235 = .ok (.goto (-197), 3) := by decide +kernel
theorem dX9_make_238 : decode cX9_make 238 = .ok (.aload_n 0, 1) := by decide +kernel
theorem dX9_make_239 : decode cX9_make 239 = .ok (.iload 8, 2) := by decide +kernel
theorem dX9_make_241 : decode cX9_make 241 = .ok (.iload 5, 2) := by decide +kernel
theorem dX9_make_243 : decode cX9_make 243 = .ok (.if_icmp .ne 7, 3) := by decide +kernel
theorem dX9_make_246 : decode cX9_make 246 = .ok (.iconst 1, 1) := by decide +kernel
theorem dX9_make_247 : decode cX9_make 247 = .ok (.goto 4, 3) := by decide +kernel
theorem dX9_make_250 : decode cX9_make 250 = .ok (.iconst 0, 1) := by decide +kernel
theorem dX9_make_251 : decode cX9_make 251 = .ok (.putfield 61, 3) := by decide +kernel
theorem dX9_make_254 : decode cX9_make 254 = .ok (.return_, 1) := by decide +kernel
theorem dX9_choose_0 : decode cX9_choose 0 = .ok (.iload_n 2, 1) := by decide +kernel
theorem dX9_choose_1 : decode cX9_choose 1 = .ok (.tableswitch 62 0 3 #[31, 39, 31, 54], 31) := by decide +kernel
theorem dX9_choose_32 : decode cX9_choose 32 = .ok (.aload_n 0, 1) := by decide +kernel
theorem dX9_choose_33 : decode cX9_choose 33 = .ok (.iload_n 3, 1) := by decide +kernel
theorem dX9_choose_34 : decode cX9_choose 34 = .ok (.iload 5, 2) := by decide +kernel
theorem dX9_choose_36 : decode cX9_choose 36 = .ok (.invokevirtual 65, 3) := by decide +kernel
theorem dX9_choose_39 : decode cX9_choose 39 = .ok (.ireturn, 1) := by decide +kernel
theorem dX9_choose_40 : decode cX9_choose 40 = .ok (.aload_n 0, 1) := by decide +kernel
theorem dX9_choose_41 : decode cX9_choose 41 = .ok (.aload_n 1, 1) := by decide +kernel
theorem dX9_choose_42 : decode cX9_choose 42 = .ok (.iload_n 3, 1) := by decide +kernel
theorem dX9_choose_43 : decode cX9_choose 43 = .ok (.iload 5, 2) := by decide +kernel
theorem dX9_choose_45 : decode cX9_choose 45 = .ok (.invokevirtual 69, 3) := by decide +kernel
theorem dX9_choose_48 : decode cX9_choose 48 = .ok (.iload_n 3, 1) := by decide +kernel
theorem dX9_choose_49 : decode cX9_choose 49 = .ok (.iload 4, 2) := by decide +kernel
theorem dX9_choose_51 : decode cX9_choose 51 = .ok (.invokestatic 74, 3) := by decide +kernel
theorem dX9_choose_54 : decode cX9_choose 54 = .ok (.ireturn, 1) := by decide +kernel
theorem dX9_choose_55 : decode cX9_choose 55 = .ok (.aload_n 0, 1) := by decide +kernel
theorem dX9_choose_56 : decode cX9_choose 56 = .ok (.iload_n 3, 1) := by decide +kernel
theorem dX9_choose_57 : decode cX9_choose 57 = .ok (.iload 4, 2) := by decide +kernel
theorem dX9_choose_59 : decode cX9_choose 59 = .ok (.invokevirtual 78, 3) := by decide +kernel
theorem dX9_choose_62 : decode cX9_choose 62 = .ok (.ireturn, 1) := by decide +kernel
theorem dX9_choose_63 : decode cX9_choose 63 = .ok (.iconst (-1), 1) := by decide +kernel
theorem dX9_choose_64 : decode cX9_choose 64 = .ok (.ireturn, 1) := by decide +kernel
theorem dX9_chooseBySign_0 : decode cX9_chooseBySign 0 = .ok (.iload_n 1, 1) := by decide +kernel
theorem dX9_chooseBySign_1 : decode cX9_chooseBySign 1 = .ok (.iconst (-1), 1) := by decide +kernel
theorem dX9_chooseBySign_2 : decode cX9_chooseBySign 2 = .ok (.if_icmp .eq 18, 3) := by decide +kernel
theorem dX9_chooseBySign_5 : decode cX9_chooseBySign 5 = .ok (.aload_n 0, 1) := by decide +kernel
theorem dX9_chooseBySign_6 : decode cX9_chooseBySign 6 = .ok (.getfield 45, 3) := by decide +kernel
theorem dX9_chooseBySign_9 : decode cX9_chooseBySign 9 = .ok (.iload_n 2, 1) := by decide +kernel
theorem dX9_chooseBySign_10 : decode cX9_chooseBySign 10 = .ok (.aaload, 1) := by decide +kernel
theorem dX9_chooseBySign_11 : decode cX9_chooseBySign 11 = .ok (.iload_n 1, 1) := by decide +kernel
theorem dX9_chooseBySign_12 : decode cX9_chooseBySign 12 = .ok (.iaload, 1) := by decide +kernel
theorem dX9_chooseBySign_13 : decode cX9_chooseBySign 13 = .ok (.ifCond .le 7, 3) := by decide +kernel
theorem dX9_chooseBySign_16 : decode cX9_chooseBySign 16 = .ok (.iconst 1, 1) := by decide +kernel
theorem dX9_chooseBySign_17 : decode cX9_chooseBySign 17 = .ok (.goto 4, 3) := by decide +kernel
theorem dX9_chooseBySign_20 : decode cX9_chooseBySign 20 = .ok (.iconst 0, 1) := by decide +kernel
theorem dX9_chooseBySign_21 : decode cX9_chooseBySign 21 = .ok (.istore 4, 2) := by decide +kernel
theorem dX9_chooseBySign_23 : decode cX9_chooseBySign 23 = .ok (.iload 4, 2) := by decide +kernel
theorem dX9_chooseBySign_25 : decode cX9_chooseBySign 25 = .ok (.ifCond .eq 7, 3) := by decide +kernel
theorem dX9_chooseBySign_28 : decode cX9_chooseBySign 28 = .ok (.iload_n 1, 1) := by decide +kernel
theorem dX9_chooseBySign_29 : decode cX9_chooseBySign 29 = .ok (.goto 9, 3) := by decide +kernel
theorem dX9_chooseBySign_32 : decode cX9_chooseBySign 32 = .ok (.aload_n 0, 1) := by decide +kernel
theorem dX9_chooseBySign_33 : decode cX9_chooseBySign 33 = .ok (.iload_n 2, 1) := by decide +kernel
theorem dX9_chooseBySign_34 : decode cX9_chooseBySign 34 = .ok (.iload_n 3, 1) := by decide +kernel
theorem dX9_chooseBySign_35 : decode cX9_chooseBySign 35 = .ok (.invokevirtual 81, 3) := by decide +kernel
theorem dX9_chooseBySign_38 : decode cX9_chooseBySign 38 = .ok (.ireturn, 1) := by decide +kernel
theorem dX9_placeBehind_0 : decode cX9_placeBehind 0 = .ok (.aload_n 0, 1) := by decide +kernel
theorem dX9_placeBehind_1 : decode cX9_placeBehind 1 = .ok (.getfield 9, 3) := by decide +kernel
theorem dX9_placeBehind_4 : decode cX9_placeBehind 4 = .ok (.iconst 0, 1) := by decide +kernel
theorem dX9_placeBehind_5 : decode cX9_placeBehind 5 = .ok (.iload_n 1, 1) := by decide +kernel
theorem dX9_placeBehind_6 : decode cX9_placeBehind 6 = .ok (.aload_n 0, 1) := by decide +kernel
theorem dX9_placeBehind_7 : decode cX9_placeBehind 7 = .ok (.getfield 19, 3) := by decide +kernel
theorem dX9_placeBehind_10 : decode cX9_placeBehind 10 = .ok (.invokestatic 84, 3) := by decide +kernel
theorem dX9_placeBehind_13 : decode cX9_placeBehind 13 = .ok (.invokestatic 89, 3) := by decide +kernel
theorem dX9_placeBehind_16 : decode cX9_placeBehind 16 = .ok (.iaload, 1) := by decide +kernel
theorem dX9_placeBehind_17 : decode cX9_placeBehind 17 = .ok (.ireturn, 1) := by decide +kernel
theorem dX9_firstRepeat_0 : decode cX9_firstRepeat 0 = .ok (.iconst 2, 1) := by decide +kernel
theorem dX9_firstRepeat_1 : decode cX9_firstRepeat 1 = .ok (.istore_n 1, 1) := by decide +kernel
theorem dX9_firstRepeat_2 : decode cX9_firstRepeat 2 = .ok (.iload_n 1, 1) := by decide +kernel
theorem dX9_firstRepeat_3 : decode cX9_firstRepeat 3 = .ok (.aload_n 0, 1) := by decide +kernel
theorem dX9_firstRepeat_4 : decode cX9_firstRepeat 4 = .ok (.getfield 19, 3) := by decide +kernel
theorem dX9_firstRepeat_7 : decode cX9_firstRepeat 7 = .ok (.if_icmp .gt 58, 3) := by decide +kernel
theorem dX9_firstRepeat_10 : decode cX9_firstRepeat 10 = .ok (.iconst 1, 1) := by decide +kernel
theorem dX9_firstRepeat_11 : decode cX9_firstRepeat 11 = .ok (.istore_n 2, 1) := by decide +kernel
theorem dX9_firstRepeat_12 : decode cX9_firstRepeat 12 = .ok (.iload_n 2, 1) := by decide +kernel
theorem dX9_firstRepeat_13 : decode cX9_firstRepeat 13 = .ok (.iload_n 1, 1) := by decide +kernel
theorem dX9_firstRepeat_14 : decode cX9_firstRepeat 14 = .ok (.if_icmp .ge 45, 3) := by decide +kernel
theorem dX9_firstRepeat_17 : decode cX9_firstRepeat 17 = .ok (.aload_n 0, 1) := by decide +kernel
theorem dX9_firstRepeat_18 : decode cX9_firstRepeat 18 = .ok (.getfield 9, 3) := by decide +kernel
theorem dX9_firstRepeat_21 : decode cX9_firstRepeat 21 = .ok (.iload_n 1, 1) := by decide +kernel
theorem dX9_firstRepeat_22 : decode cX9_firstRepeat 22 = .ok (.iaload, 1) := by decide +kernel
theorem dX9_firstRepeat_23 : decode cX9_firstRepeat 23 = .ok (.aload_n 0, 1) := by decide +kernel
theorem dX9_firstRepeat_24 : decode cX9_firstRepeat 24 = .ok (.getfield 9, 3) := by decide +kernel
theorem dX9_firstRepeat_27 : decode cX9_firstRepeat 27 = .ok (.iload_n 2, 1) := by decide +kernel
theorem dX9_firstRepeat_28 : decode cX9_firstRepeat 28 = .ok (.iaload, 1) := by decide +kernel
theorem dX9_firstRepeat_29 : decode cX9_firstRepeat 29 = .ok (.if_icmp .ne 24, 3) := by decide +kernel
theorem dX9_firstRepeat_32 : decode cX9_firstRepeat 32 = .ok (.aload_n 0, 1) := by decide +kernel
theorem dX9_firstRepeat_33 : decode cX9_firstRepeat 33 = .ok (.getfield 9, 3) := by decide +kernel
theorem dX9_firstRepeat_36 : decode cX9_firstRepeat 36 = .ok (.iload_n 1, 1) := by decide +kernel
theorem dX9_firstRepeat_37 : decode cX9_firstRepeat 37 = .ok (.iconst 1, 1) := by decide +kernel
theorem dX9_firstRepeat_38 : decode cX9_firstRepeat 38 = .ok (.isub, 1) := by decide +kernel
theorem dX9_firstRepeat_39 : decode cX9_firstRepeat 39 = .ok (.iaload, 1) := by decide +kernel
theorem dX9_firstRepeat_40 : decode cX9_firstRepeat 40 = .ok (.aload_n 0, 1) := by decide +kernel
theorem dX9_firstRepeat_41 : decode cX9_firstRepeat 41 = .ok (.getfield 9, 3) := by decide +kernel
theorem dX9_firstRepeat_44 : decode cX9_firstRepeat 44 = .ok (.iload_n 2, 1) := by decide +kernel
theorem dX9_firstRepeat_45 : decode cX9_firstRepeat 45 = .ok (.iconst 1, 1) := by decide +kernel
theorem dX9_firstRepeat_46 : decode cX9_firstRepeat 46 = .ok (.isub, 1) := by decide +kernel
theorem dX9_firstRepeat_47 : decode cX9_firstRepeat 47 = .ok (.iaload, 1) := by decide +kernel
theorem dX9_firstRepeat_48 : decode cX9_firstRepeat 48 = .ok (.if_icmp .ne 5, 3) := by decide +kernel
theorem dX9_firstRepeat_51 : decode cX9_firstRepeat 51 = .ok (.iload_n 1, 1) := by decide +kernel
theorem dX9_firstRepeat_52 : decode cX9_firstRepeat 52 = .ok (.ireturn, 1) := by decide +kernel
theorem dX9_firstRepeat_53 : decode cX9_firstRepeat 53 = .ok (.iinc 2 1, 3) := by decide +kernel
theorem dX9_firstRepeat_56 : decode cX9_firstRepeat 56 = .ok (.goto (-44), 3) := by decide +kernel
theorem dX9_firstRepeat_59 : decode cX9_firstRepeat 59 = .ok (.iinc 1 1, 3) := by decide +kernel
theorem dX9_firstRepeat_62 : decode cX9_firstRepeat 62 = .ok (.goto (-60), 3) := by decide +kernel
theorem dX9_firstRepeat_65 : decode cX9_firstRepeat 65 = .ok (.bipush (-4), 2) := by decide +kernel
theorem dX9_firstRepeat_67 : decode cX9_firstRepeat 67 = .ok (.ireturn, 1) := by decide +kernel
theorem dX9_tallyWrong_0 : decode cX9_tallyWrong 0 = .ok (.iconst 0, 1) := by decide +kernel
theorem dX9_tallyWrong_1 : decode cX9_tallyWrong 1 = .ok (.istore_n 2, 1) := by decide +kernel
theorem dX9_tallyWrong_2 : decode cX9_tallyWrong 2 = .ok (.iload_n 2, 1) := by decide +kernel
theorem dX9_tallyWrong_3 : decode cX9_tallyWrong 3 = .ok (.aload_n 0, 1) := by decide +kernel
theorem dX9_tallyWrong_4 : decode cX9_tallyWrong 4 = .ok (.getfield 19, 3) := by decide +kernel
theorem dX9_tallyWrong_7 : decode cX9_tallyWrong 7 = .ok (.if_icmp .ge 30, 3) := by decide +kernel
theorem dX9_tallyWrong_10 : decode cX9_tallyWrong 10 = .ok (.aload_n 0, 1) := by decide +kernel
theorem dX9_tallyWrong_11 : decode cX9_tallyWrong 11 = .ok (.getfield 15, 3) := by decide +kernel
theorem dX9_tallyWrong_14 : decode cX9_tallyWrong 14 = .ok (.iload_n 2, 1) := by decide +kernel
theorem dX9_tallyWrong_15 : decode cX9_tallyWrong 15 = .ok (.baload, 1) := by decide +kernel
theorem dX9_tallyWrong_16 : decode cX9_tallyWrong 16 = .ok (.ifCond .eq 15, 3) := by decide +kernel
theorem dX9_tallyWrong_19 : decode cX9_tallyWrong 19 = .ok (.aload_n 1, 1) := by decide +kernel
theorem dX9_tallyWrong_20 : decode cX9_tallyWrong 20 = .ok (.aload_n 0, 1) := by decide +kernel
theorem dX9_tallyWrong_21 : decode cX9_tallyWrong 21 = .ok (.getfield 9, 3) := by decide +kernel
theorem dX9_tallyWrong_24 : decode cX9_tallyWrong 24 = .ok (.iload_n 2, 1) := by decide +kernel
theorem dX9_tallyWrong_25 : decode cX9_tallyWrong 25 = .ok (.iaload, 1) := by decide +kernel
theorem dX9_tallyWrong_26 : decode cX9_tallyWrong 26 = .ok (.dup2, 1) := by decide +kernel
theorem dX9_tallyWrong_27 : decode cX9_tallyWrong 27 = .ok (.iaload, 1) := by decide +kernel
theorem dX9_tallyWrong_28 : decode cX9_tallyWrong 28 = .ok (.iconst 1, 1) := by decide +kernel
theorem dX9_tallyWrong_29 : decode cX9_tallyWrong 29 = .ok (.iadd, 1) := by decide +kernel
theorem dX9_tallyWrong_30 : decode cX9_tallyWrong 30 = .ok (.iastore, 1) := by decide +kernel
theorem dX9_tallyWrong_31 : decode cX9_tallyWrong 31 = .ok (.iinc 2 1, 3) := by decide +kernel
theorem dX9_tallyWrong_34 : decode cX9_tallyWrong 34 = .ok (.goto (-32), 3) := by decide +kernel
theorem dX9_tallyWrong_37 : decode cX9_tallyWrong 37 = .ok (.return_, 1) := by decide +kernel
theorem dX10_init_0 : decode cX10_init 0 = .ok (.aload_n 0, 1) := by decide +kernel
theorem dX10_init_1 : decode cX10_init 1 = .ok (.invokespecial 3, 3) := by decide +kernel
theorem dX10_init_4 : decode cX10_init 4 = .ok (.aload_n 0, 1) := by decide +kernel
theorem dX10_init_5 : decode cX10_init 5 = .ok (.iconst 4, 1) := by decide +kernel
theorem dX10_init_6 : decode cX10_init 6 = .ok (.newarray .int, 2) := by decide +kernel
theorem dX10_init_8 : decode cX10_init 8 = .ok (.putfield 9, 3) := by decide +kernel
theorem dX10_init_11 : decode cX10_init 11 = .ok (.aload_n 0, 1) := by decide +kernel
theorem dX10_init_12 : decode cX10_init 12 = .ok (.iconst 4, 1) := by decide +kernel
theorem dX10_init_13 : decode cX10_init 13 = .ok (.newarray .int, 2) := by decide +kernel
theorem dX10_init_15 : decode cX10_init 15 = .ok (.putfield 15, 3) := by decide +kernel
theorem dX10_init_18 : decode cX10_init 18 = .ok (.aload_n 0, 1) := by decide +kernel
theorem dX10_init_19 : decode cX10_init 19 = .ok (.iconst 4, 1) := by decide +kernel
theorem dX10_init_20 : decode cX10_init 20 = .ok (.newarray .int, 2) := by decide +kernel
theorem dX10_init_22 : decode cX10_init 22 = .ok (.putfield 18, 3) := by decide +kernel
theorem dX10_init_25 : decode cX10_init 25 = .ok (.aload_n 0, 1) := by decide +kernel
theorem dX10_init_26 : decode cX10_init 26 = .ok (.iconst 4, 1) := by decide +kernel
theorem dX10_init_27 : decode cX10_init 27 = .ok (.newarray .int, 2) := by decide +kernel
theorem dX10_init_29 : decode cX10_init 29 = .ok (.putfield 21, 3) := by decide +kernel
theorem dX10_init_32 : decode cX10_init 32 = .ok (.return_, 1) := by decide +kernel
theorem dX10_add_0 : decode cX10_add 0 = .ok (.aload_n 0, 1) := by decide +kernel
theorem dX10_add_1 : decode cX10_add 1 = .ok (.getfield 24, 3) := by decide +kernel
theorem dX10_add_4 : decode cX10_add 4 = .ok (.iconst 4, 1) := by decide +kernel
theorem dX10_add_5 : decode cX10_add 5 = .ok (.if_icmp .ge 53, 3) := by decide +kernel
theorem dX10_add_8 : decode cX10_add 8 = .ok (.aload_n 0, 1) := by decide +kernel
theorem dX10_add_9 : decode cX10_add 9 = .ok (.getfield 9, 3) := by decide +kernel
theorem dX10_add_12 : decode cX10_add 12 = .ok (.aload_n 0, 1) := by decide +kernel
theorem dX10_add_13 : decode cX10_add 13 = .ok (.getfield 24, 3) := by decide +kernel
theorem dX10_add_16 : decode cX10_add 16 = .ok (.iload_n 1, 1) := by decide +kernel
theorem dX10_add_17 : decode cX10_add 17 = .ok (.iastore, 1) := by decide +kernel
theorem dX10_add_18 : decode cX10_add 18 = .ok (.aload_n 0, 1) := by decide +kernel
theorem dX10_add_19 : decode cX10_add 19 = .ok (.getfield 15, 3) := by decide +kernel
theorem dX10_add_22 : decode cX10_add 22 = .ok (.aload_n 0, 1) := by decide +kernel
theorem dX10_add_23 : decode cX10_add 23 = .ok (.getfield 24, 3) := by decide +kernel
theorem dX10_add_26 : decode cX10_add 26 = .ok (.iload_n 2, 1) := by decide +kernel
theorem dX10_add_27 : decode cX10_add 27 = .ok (.iastore, 1) := by decide +kernel
theorem dX10_add_28 : decode cX10_add 28 = .ok (.aload_n 0, 1) := by decide +kernel
theorem dX10_add_29 : decode cX10_add 29 = .ok (.getfield 18, 3) := by decide +kernel
theorem dX10_add_32 : decode cX10_add 32 = .ok (.aload_n 0, 1) := by decide +kernel
theorem dX10_add_33 : decode cX10_add 33 = .ok (.getfield 24, 3) := by decide +kernel
theorem dX10_add_36 : decode cX10_add 36 = .ok (.iload_n 3, 1) := by decide +kernel
theorem dX10_add_37 : decode cX10_add 37 = .ok (.iastore, 1) := by decide +kernel
theorem dX10_add_38 : decode cX10_add 38 = .ok (.aload_n 0, 1) := by decide +kernel
theorem dX10_add_39 : decode cX10_add 39 = .ok (.getfield 21, 3) := by decide +kernel
theorem dX10_add_42 : decode cX10_add 42 = .ok (.aload_n 0, 1) := by decide +kernel
theorem dX10_add_43 : decode cX10_add 43 = .ok (.getfield 24, 3) := by decide +kernel
theorem dX10_add_46 : decode cX10_add 46 = .ok (.iload_n 3, 1) := by decide +kernel
theorem dX10_add_47 : decode cX10_add 47 = .ok (.iastore, 1) := by decide +kernel
theorem dX10_add_48 : decode cX10_add 48 = .ok (.aload_n 0, 1) := by decide +kernel
theorem dX10_add_49 : decode cX10_add 49 = .ok (.dup, 1) := by decide +kernel
theorem dX10_add_50 : decode cX10_add 50 = .ok (.getfield 24, 3) := by decide +kernel
theorem dX10_add_53 : decode cX10_add 53 = .ok (.iconst 1, 1) := by decide +kernel
theorem dX10_add_54 : decode cX10_add 54 = .ok (.iadd, 1) := by decide +kernel
theorem dX10_add_55 : decode cX10_add 55 = .ok (.putfield 24, 3) := by decide +kernel
theorem dX10_add_58 : decode cX10_add 58 = .ok (.return_, 1) := by decide +kernel
theorem dX10_anyStrangerTo_0 : decode cX10_anyStrangerTo 0 = .ok (.iconst 0, 1) := by decide +kernel
theorem dX10_anyStrangerTo_1 : decode cX10_anyStrangerTo 1 = .ok (.istore_n 2, 1) := by decide +kernel
theorem dX10_anyStrangerTo_2 : decode cX10_anyStrangerTo 2 = .ok (.iload_n 2, 1) := by decide +kernel
theorem dX10_anyStrangerTo_3 : decode cX10_anyStrangerTo 3 = .ok (.aload_n 0, 1) := by decide +kernel
theorem dX10_anyStrangerTo_4 : decode cX10_anyStrangerTo 4 = .ok (.getfield 24, 3) := by decide +kernel
theorem dX10_anyStrangerTo_7 : decode cX10_anyStrangerTo 7 = .ok (.if_icmp .ge 31, 3) := by decide +kernel
theorem dX10_anyStrangerTo_10 : decode cX10_anyStrangerTo 10 = .ok (.aload_n 0, 1) := by decide +kernel
theorem dX10_anyStrangerTo_11 : decode cX10_anyStrangerTo 11 = .ok (.getfield 9, 3) := by decide +kernel
theorem dX10_anyStrangerTo_14 : decode cX10_anyStrangerTo 14 = .ok (.iload_n 2, 1) := by decide +kernel
theorem dX10_anyStrangerTo_15 : decode cX10_anyStrangerTo 15 = .ok (.iaload, 1) := by decide +kernel
theorem dX10_anyStrangerTo_16 : decode cX10_anyStrangerTo 16 = .ok (.iconst 1, 1) := by decide +kernel
theorem dX10_anyStrangerTo_17 : decode cX10_anyStrangerTo 17 = .ok (.if_icmp .ne 15, 3) := by decide +kernel
theorem dX10_anyStrangerTo_20 : decode cX10_anyStrangerTo 20 = .ok (.aload_n 0, 1) := by decide +kernel
theorem dX10_anyStrangerTo_21 : decode cX10_anyStrangerTo 21 = .ok (.getfield 18, 3) := by decide +kernel
theorem dX10_anyStrangerTo_24 : decode cX10_anyStrangerTo 24 = .ok (.iload_n 2, 1) := by decide +kernel
theorem dX10_anyStrangerTo_25 : decode cX10_anyStrangerTo 25 = .ok (.iaload, 1) := by decide +kernel
theorem dX10_anyStrangerTo_26 : decode cX10_anyStrangerTo 26 = .ok (.iload_n 1, 1) := by decide +kernel
theorem dX10_anyStrangerTo_27 : decode cX10_anyStrangerTo 27 = .ok (.if_icmp .ne 5, 3) := by decide +kernel
theorem dX10_anyStrangerTo_30 : decode cX10_anyStrangerTo 30 = .ok (.iconst 1, 1) := by decide +kernel
theorem dX10_anyStrangerTo_31 : decode cX10_anyStrangerTo 31 = .ok (.ireturn, 1) := by decide +kernel
theorem dX10_anyStrangerTo_32 : decode cX10_anyStrangerTo 32 = .ok (.iinc 2 1, 3) := by decide +kernel
theorem dX10_anyStrangerTo_35 : decode cX10_anyStrangerTo 35 = .ok (.goto (-33), 3) := by decide +kernel
theorem dX10_anyStrangerTo_38 : decode cX10_anyStrangerTo 38 = .ok (.iconst 0, 1) := by decide +kernel
theorem dX10_anyStrangerTo_39 : decode cX10_anyStrangerTo 39 = .ok (.ireturn, 1) := by decide +kernel
theorem dX11_init_0 : decode cX11_init 0 = .ok (.aload_n 0, 1) := by decide +kernel
theorem dX11_init_1 : decode cX11_init 1 = .ok (.invokespecial 1, 3) := by decide +kernel
theorem dX11_init_4 : decode cX11_init 4 = .ok (.aload_n 0, 1) := by decide +kernel
theorem dX11_init_5 : decode cX11_init 5 = .ok (.new 7, 3) := by decide +kernel
theorem dX11_init_8 : decode cX11_init 8 = .ok (.dup, 1) := by decide +kernel
theorem dX11_init_9 : decode cX11_init 9 = .ok (.invokespecial 9, 3) := by decide +kernel
theorem dX11_init_12 : decode cX11_init 12 = .ok (.putfield 10, 3) := by decide +kernel
theorem dX11_init_15 : decode cX11_init 15 = .ok (.aload_n 0, 1) := by decide +kernel
theorem dX11_init_16 : decode cX11_init 16 = .ok (.new 16, 3) := by decide +kernel
theorem dX11_init_19 : decode cX11_init 19 = .ok (.dup, 1) := by decide +kernel
theorem dX11_init_20 : decode cX11_init 20 = .ok (.invokespecial 18, 3) := by decide +kernel
theorem dX11_init_23 : decode cX11_init 23 = .ok (.putfield 19, 3) := by decide +kernel
theorem dX11_init_26 : decode cX11_init 26 = .ok (.aload_n 0, 1) := by decide +kernel
theorem dX11_init_27 : decode cX11_init 27 = .ok (.new 23, 3) := by decide +kernel
theorem dX11_init_30 : decode cX11_init 30 = .ok (.dup, 1) := by decide +kernel
theorem dX11_init_31 : decode cX11_init 31 = .ok (.invokespecial 25, 3) := by decide +kernel
theorem dX11_init_34 : decode cX11_init 34 = .ok (.putfield 26, 3) := by decide +kernel
theorem dX11_init_37 : decode cX11_init 37 = .ok (.aload_n 0, 1) := by decide +kernel
theorem dX11_init_38 : decode cX11_init 38 = .ok (.new 23, 3) := by decide +kernel
theorem dX11_init_41 : decode cX11_init 41 = .ok (.dup, 1) := by decide +kernel
theorem dX11_init_42 : decode cX11_init 42 = .ok (.invokespecial 25, 3) := by decide +kernel
theorem dX11_init_45 : decode cX11_init 45 = .ok (.putfield 30, 3) := by decide +kernel
theorem dX11_init_48 : decode cX11_init 48 = .ok (.aload_n 0, 1) := by decide +kernel
theorem dX11_init_49 : decode cX11_init 49 = .ok (.new 33, 3) := by decide +kernel
theorem dX11_init_52 : decode cX11_init 52 = .ok (.dup, 1) := by decide +kernel
theorem dX11_init_53 : decode cX11_init 53 = .ok (.invokespecial 35, 3) := by decide +kernel
theorem dX11_init_56 : decode cX11_init 56 = .ok (.putfield 36, 3) := by decide +kernel
theorem dX11_init_59 : decode cX11_init 59 = .ok (.aload_n 0, 1) := by decide +kernel
theorem dX11_init_60 : decode cX11_init 60 = .ok (.new 40, 3) := by decide +kernel
theorem dX11_init_63 : decode cX11_init 63 = .ok (.dup, 1) := by decide +kernel
theorem dX11_init_64 : decode cX11_init 64 = .ok (.invokespecial 42, 3) := by decide +kernel
theorem dX11_init_67 : decode cX11_init 67 = .ok (.putfield 43, 3) := by decide +kernel
theorem dX11_init_70 : decode cX11_init 70 = .ok (.aload_n 0, 1) := by decide +kernel
theorem dX11_init_71 : decode cX11_init 71 = .ok (.new 47, 3) := by decide +kernel
theorem dX11_init_74 : decode cX11_init 74 = .ok (.dup, 1) := by decide +kernel
theorem dX11_init_75 : decode cX11_init 75 = .ok (.invokespecial 49, 3) := by decide +kernel
theorem dX11_init_78 : decode cX11_init 78 = .ok (.putfield 50, 3) := by decide +kernel
theorem dX11_init_81 : decode cX11_init 81 = .ok (.aload_n 0, 1) := by decide +kernel
theorem dX11_init_82 : decode cX11_init 82 = .ok (.new 54, 3) := by decide +kernel
theorem dX11_init_85 : decode cX11_init 85 = .ok (.dup, 1) := by decide +kernel
theorem dX11_init_86 : decode cX11_init 86 = .ok (.invokespecial 56, 3) := by decide +kernel
theorem dX11_init_89 : decode cX11_init 89 = .ok (.putfield 57, 3) := by decide +kernel
theorem dX11_init_92 : decode cX11_init 92 = .ok (.aload_n 0, 1) := by decide +kernel
theorem dX11_init_93 : decode cX11_init 93 = .ok (.new 61, 3) := by decide +kernel
theorem dX11_init_96 : decode cX11_init 96 = .ok (.dup, 1) := by decide +kernel
theorem dX11_init_97 : decode cX11_init 97 = .ok (.invokespecial 63, 3) := by decide +kernel
theorem dX11_init_100 : decode cX11_init 100 = .ok (.putfield 64, 3) := by decide +kernel
theorem dX11_init_103 : decode cX11_init 103 = .ok (.aload_n 0, 1) := by decide +kernel
theorem dX11_init_104 : decode cX11_init 104 = .ok (.new 68, 3) := by decide +kernel
theorem dX11_init_107 : decode cX11_init 107 = .ok (.dup, 1) := by decide +kernel
theorem dX11_init_108 : decode cX11_init 108 = .ok (.invokespecial 70, 3) := by decide +kernel
theorem dX11_init_111 : decode cX11_init 111 = .ok (.putfield 71, 3) := by decide +kernel
theorem dX11_init_114 : decode cX11_init 114 = .ok (.aload_n 0, 1) := by decide +kernel
theorem dX11_init_115 : decode cX11_init 115 = .ok (.bipush 8, 2) := by decide +kernel
theorem dX11_init_117 : decode cX11_init 117 = .ok (.bipush 8, 2) := by decide +kernel
theorem dX11_init_119 : decode cX11_init 119 = .ok (.multianewarray 75 2, 4) := by decide +kernel
theorem dX11_init_123 : decode cX11_init 123 = .ok (.putfield 77, 3) := by decide +kernel
theorem dX11_init_126 : decode cX11_init 126 = .ok (.aload_n 0, 1) := by decide +kernel
theorem dX11_init_127 : decode cX11_init 127 = .ok (.bipush 8, 2) := by decide +kernel
theorem dX11_init_129 : decode cX11_init 129 = .ok (.newarray .int, 2) := by decide +kernel
theorem dX11_init_131 : decode cX11_init 131 = .ok (.putfield 80, 3) := by decide +kernel
theorem dX11_init_134 : decode cX11_init 134 = .ok (.aload_n 0, 1) := by decide +kernel
theorem dX11_init_135 : decode cX11_init 135 = .ok (.iconst 4, 1) := by decide +kernel
theorem dX11_init_136 : decode cX11_init 136 = .ok (.newarray .int, 2) := by decide +kernel
theorem dX11_init_138 : decode cX11_init 138 = .ok (.putfield 84, 3) := by decide +kernel
theorem dX11_init_141 : decode cX11_init 141 = .ok (.iconst 0, 1) := by decide +kernel
theorem dX11_init_142 : decode cX11_init 142 = .ok (.istore_n 1, 1) := by decide +kernel
theorem dX11_init_143 : decode cX11_init 143 = .ok (.iload_n 1, 1) := by decide +kernel
theorem dX11_init_144 : decode cX11_init 144 = .ok (.ldc 87, 2) := by decide +kernel
theorem dX11_init_146 : decode cX11_init 146 = .ok (.invokevirtual 89, 3) := by decide +kernel
theorem dX11_init_149 : decode cX11_init 149 = .ok (.if_icmp .ge 22, 3) := by decide +kernel
theorem dX11_init_152 : decode cX11_init 152 = .ok (.aload_n 0, 1) := by decide +kernel
theorem dX11_init_153 : decode cX11_init 153 = .ok (.getfield 10, 3) := by decide +kernel
theorem dX11_init_156 : decode cX11_init 156 = .ok (.ldc 87, 2) := by decide +kernel
theorem dX11_init_158 : decode cX11_init 158 = .ok (.iload_n 1, 1) := by decide +kernel
theorem dX11_init_159 : decode cX11_init 159 = .ok (.invokevirtual 95, 3) := by decide +kernel
theorem dX11_init_162 : decode cX11_init 162 = .ok (.invokevirtual 99, 3) := by decide +kernel
theorem dX11_init_165 : decode cX11_init 165 = .ok (.iinc 1 1, 3) := by decide +kernel
theorem dX11_init_168 : decode cX11_init 168 = .ok (.goto (-25), 3) := by decide +kernel
theorem dX11_init_171 : decode cX11_init 171 = .ok (.aload_n 0, 1) := by decide +kernel
theorem dX11_init_172 : decode cX11_init 172 = .ok (.invokevirtual 103, 3) := by decide +kernel
theorem dX11_init_175 : decode cX11_init 175 = .ok (.pop, 1) := by decide +kernel
theorem dX11_init_176 : decode cX11_init 176 = .ok (.aload_n 0, 1) := by decide +kernel
theorem dX11_init_177 : decode cX11_init 177 = .ok (.invokevirtual 106, 3) := by decide +kernel
theorem dX11_init_180 : decode cX11_init 180 = .ok (.pop, 1) := by decide +kernel
theorem dX11_init_181 : decode cX11_init 181 = .ok (.return_, 1) := by decide +kernel
theorem dX11_write_0 : decode cX11_write 0 = .ok (.iload_n 1, 1) := by decide +kernel
theorem dX11_write_1 : decode cX11_write 1 = .ok (.bipush 32, 2) := by decide +kernel
theorem dX11_write_3 : decode cX11_write 3 = .ok (.if_icmp .lt 9, 3) := by decide +kernel
theorem dX11_write_6 : decode cX11_write 6 = .ok (.iload_n 1, 1) := by decide +kernel
theorem dX11_write_7 : decode cX11_write 7 = .ok (.bipush 126, 2) := by decide +kernel
theorem dX11_write_9 : decode cX11_write 9 = .ok (.if_icmp .le 5, 3) := by decide +kernel
theorem dX11_write_12 : decode cX11_write 12 = .ok (.iconst (-1), 1) := by decide +kernel
theorem dX11_write_13 : decode cX11_write 13 = .ok (.ireturn, 1) := by decide +kernel
theorem dX11_write_14 : decode cX11_write 14 = .ok (.aload_n 0, 1) := by decide +kernel
theorem dX11_write_15 : decode cX11_write 15 = .ok (.getfield 10, 3) := by decide +kernel
theorem dX11_write_18 : decode cX11_write 18 = .ok (.getfield 109, 3) := by decide +kernel
theorem dX11_write_21 : decode cX11_write 21 = .ok (.sipush 200, 3) := by decide +kernel
theorem dX11_write_24 : decode cX11_write 24 = .ok (.if_icmp .lt 6, 3) := by decide +kernel
theorem dX11_write_27 : decode cX11_write 27 = .ok (.bipush (-3), 2) := by decide +kernel
theorem dX11_write_29 : decode cX11_write 29 = .ok (.ireturn, 1) := by decide +kernel
theorem dX11_write_30 : decode cX11_write 30 = .ok (.aload_n 0, 1) := by decide +kernel
theorem dX11_write_31 : decode cX11_write 31 = .ok (.getfield 10, 3) := by decide +kernel
theorem dX11_write_34 : decode cX11_write 34 = .ok (.iload_n 1, 1) := by decide +kernel
theorem dX11_write_35 : decode cX11_write 35 = .ok (.invokevirtual 99, 3) := by decide +kernel
theorem dX11_write_38 : decode cX11_write 38 = .ok (.aload_n 0, 1) := by decide +kernel
theorem dX11_write_39 : decode cX11_write 39 = .ok (.getfield 10, 3) := by decide +kernel
theorem dX11_write_42 : decode cX11_write 42 = .ok (.getfield 109, 3) := by decide +kernel
theorem dX11_write_45 : decode cX11_write 45 = .ok (.ireturn, 1) := by decide +kernel
theorem dX11_wipe_0 : decode cX11_wipe 0 = .ok (.aload_n 0, 1) := by decide +kernel
theorem dX11_wipe_1 : decode cX11_wipe 1 = .ok (.getfield 10, 3) := by decide +kernel
theorem dX11_wipe_4 : decode cX11_wipe 4 = .ok (.getfield 109, 3) := by decide +kernel
theorem dX11_wipe_7 : decode cX11_wipe 7 = .ok (.istore_n 1, 1) := by decide +kernel
theorem dX11_wipe_8 : decode cX11_wipe 8 = .ok (.aload_n 0, 1) := by decide +kernel
theorem dX11_wipe_9 : decode cX11_wipe 9 = .ok (.getfield 10, 3) := by decide +kernel
theorem dX11_wipe_12 : decode cX11_wipe 12 = .ok (.iconst 0, 1) := by decide +kernel
theorem dX11_wipe_13 : decode cX11_wipe 13 = .ok (.putfield 109, 3) := by decide +kernel
theorem dX11_wipe_16 : decode cX11_wipe 16 = .ok (.iload_n 1, 1) := by decide +kernel
theorem dX11_wipe_17 : decode cX11_wipe 17 = .ok (.ireturn, 1) := by decide +kernel
theorem dX11_fault_0 : decode cX11_fault 0 = .ok (.aload_n 0, 1) := by decide +kernel
theorem dX11_fault_1 : decode cX11_fault 1 = .ok (.getfield 19, 3) := by decide +kernel
theorem dX11_fault_4 : decode cX11_fault 4 = .ok (.aload_n 0, 1) := by decide +kernel
theorem dX11_fault_5 : decode cX11_fault 5 = .ok (.getfield 30, 3) := by decide +kernel
theorem dX11_fault_8 : decode cX11_fault 8 = .ok (.aload_n 0, 1) := by decide +kernel
theorem dX11_fault_9 : decode cX11_fault 9 = .ok (.getfield 10, 3) := by decide +kernel
theorem dX11_fault_12 : decode cX11_fault 12 = .ok (.invokevirtual 112, 3) := by decide +kernel
theorem dX11_fault_15 : decode cX11_fault 15 = .ok (.ireturn, 1) := by decide +kernel
theorem dX11_lay_0 : decode cX11_lay 0 = .ok (.aload_n 0, 1) := by decide +kernel
theorem dX11_lay_1 : decode cX11_lay 1 = .ok (.getfield 19, 3) := by decide +kernel
theorem dX11_lay_4 : decode cX11_lay 4 = .ok (.aload_n 0, 1) := by decide +kernel
theorem dX11_lay_5 : decode cX11_lay 5 = .ok (.getfield 30, 3) := by decide +kernel
theorem dX11_lay_8 : decode cX11_lay 8 = .ok (.aload_n 0, 1) := by decide +kernel
theorem dX11_lay_9 : decode cX11_lay 9 = .ok (.getfield 10, 3) := by decide +kernel
theorem dX11_lay_12 : decode cX11_lay 12 = .ok (.invokevirtual 112, 3) := by decide +kernel
theorem dX11_lay_15 : decode cX11_lay 15 = .ok (.bipush (-4), 2) := by decide +kernel
theorem dX11_lay_17 : decode cX11_lay 17 = .ok (.if_icmp .ne 16, 3) := by decide +kernel
theorem dX11_lay_20 : decode cX11_lay 20 = .ok (.aload_n 0, 1) := by decide +kernel
theorem dX11_lay_21 : decode cX11_lay 21 = .ok (.getfield 30, 3) := by decide +kernel
theorem dX11_lay_24 : decode cX11_lay 24 = .ok (.getfield 116, 3) := by decide +kernel
theorem dX11_lay_27 : decode cX11_lay 27 = .ok (.getfield 120, 3) := by decide +kernel
theorem dX11_lay_30 : decode cX11_lay 30 = .ok (.ifCond .ne 6, 3) := by decide +kernel
theorem dX11_lay_33 : decode cX11_lay 33 = .ok (.bipush (-2), 2) := by decide +kernel
theorem dX11_lay_35 : decode cX11_lay 35 = .ok (.ireturn, 1) := by decide +kernel
theorem dX11_lay_36 : decode cX11_lay 36 = .ok (.aload_n 0, 1) := by decide +kernel
theorem dX11_lay_37 : decode cX11_lay 37 = .ok (.getfield 26, 3) := by decide +kernel
theorem dX11_lay_40 : decode cX11_lay 40 = .ok (.astore_n 1, 1) := by decide +kernel
theorem dX11_lay_41 : decode cX11_lay 41 = .ok (.aload_n 0, 1) := by decide +kernel
theorem dX11_lay_42 : decode cX11_lay 42 = .ok (.aload_n 0, 1) := by decide +kernel
theorem dX11_lay_43 : decode cX11_lay 43 = .ok (.getfield 30, 3) := by decide +kernel
theorem dX11_lay_46 : decode cX11_lay 46 = .ok (.putfield 26, 3) := by decide +kernel
theorem dX11_lay_49 : decode cX11_lay 49 = .ok (.aload_n 0, 1) := by decide +kernel
theorem dX11_lay_50 : decode cX11_lay 50 = .ok (.aload_n 1, 1) := by decide +kernel
theorem dX11_lay_51 : decode cX11_lay 51 = .ok (.putfield 30, 3) := by decide +kernel
theorem dX11_lay_54 : decode cX11_lay 54 = .ok (.aload_n 0, 1) := by decide +kernel
theorem dX11_lay_55 : decode cX11_lay 55 = .ok (.getfield 26, 3) := by decide +kernel
theorem dX11_lay_58 : decode cX11_lay 58 = .ok (.getfield 125, 3) := by decide +kernel
theorem dX11_lay_61 : decode cX11_lay 61 = .ok (.aload_n 0, 1) := by decide +kernel
theorem dX11_lay_62 : decode cX11_lay 62 = .ok (.getfield 26, 3) := by decide +kernel
theorem dX11_lay_65 : decode cX11_lay 65 = .ok (.getfield 125, 3) := by decide +kernel
theorem dX11_lay_68 : decode cX11_lay 68 = .ok (.getfield 129, 3) := by decide +kernel
theorem dX11_lay_71 : decode cX11_lay 71 = .ok (.iconst (-1), 1) := by decide +kernel
theorem dX11_lay_72 : decode cX11_lay 72 = .ok (.invokevirtual 134, 3) := by decide +kernel
theorem dX11_lay_75 : decode cX11_lay 75 = .ok (.aload_n 0, 1) := by decide +kernel
theorem dX11_lay_76 : decode cX11_lay 76 = .ok (.getfield 50, 3) := by decide +kernel
theorem dX11_lay_79 : decode cX11_lay 79 = .ok (.invokevirtual 138, 3) := by decide +kernel
theorem dX11_lay_82 : decode cX11_lay 82 = .ok (.aload_n 0, 1) := by decide +kernel
theorem dX11_lay_83 : decode cX11_lay 83 = .ok (.getfield 57, 3) := by decide +kernel
theorem dX11_lay_86 : decode cX11_lay 86 = .ok (.iconst 0, 1) := by decide +kernel
theorem dX11_lay_87 : decode cX11_lay 87 = .ok (.putfield 141, 3) := by decide +kernel
theorem dX11_lay_90 : decode cX11_lay 90 = .ok (.aload_n 0, 1) := by decide +kernel
theorem dX11_lay_91 : decode cX11_lay 91 = .ok (.getfield 64, 3) := by decide +kernel
theorem dX11_lay_94 : decode cX11_lay 94 = .ok (.iconst 0, 1) := by decide +kernel
theorem dX11_lay_95 : decode cX11_lay 95 = .ok (.putfield 142, 3) := by decide +kernel
theorem dX11_lay_98 : decode cX11_lay 98 = .ok (.aload_n 0, 1) := by decide +kernel
theorem dX11_lay_99 : decode cX11_lay 99 = .ok (.getfield 26, 3) := by decide +kernel
theorem dX11_lay_102 : decode cX11_lay 102 = .ok (.getfield 125, 3) := by decide +kernel
theorem dX11_lay_105 : decode cX11_lay 105 = .ok (.getfield 143, 3) := by decide +kernel
theorem dX11_lay_108 : decode cX11_lay 108 = .ok (.ireturn, 1) := by decide +kernel
theorem dX11_far_0 : decode cX11_far 0 = .ok (.aload_n 0, 1) := by decide +kernel
theorem dX11_far_1 : decode cX11_far 1 = .ok (.iload_n 1, 1) := by decide +kernel
theorem dX11_far_2 : decode cX11_far 2 = .ok (.invokevirtual 146, 3) := by decide +kernel
theorem dX11_far_5 : decode cX11_far 5 = .ok (.ifCond .eq 11, 3) := by decide +kernel
theorem dX11_far_8 : decode cX11_far 8 = .ok (.aload_n 0, 1) := by decide +kernel
theorem dX11_far_9 : decode cX11_far 9 = .ok (.iload_n 2, 1) := by decide +kernel
theorem dX11_far_10 : decode cX11_far 10 = .ok (.invokevirtual 146, 3) := by decide +kernel
theorem dX11_far_13 : decode cX11_far 13 = .ok (.ifCond .ne 5, 3) := by decide +kernel
theorem dX11_far_16 : decode cX11_far 16 = .ok (.iconst (-1), 1) := by decide +kernel
theorem dX11_far_17 : decode cX11_far 17 = .ok (.ireturn, 1) := by decide +kernel
theorem dX11_far_18 : decode cX11_far 18 = .ok (.aload_n 0, 1) := by decide +kernel
theorem dX11_far_19 : decode cX11_far 19 = .ok (.getfield 26, 3) := by decide +kernel
theorem dX11_far_22 : decode cX11_far 22 = .ok (.getfield 125, 3) := by decide +kernel
theorem dX11_far_25 : decode cX11_far 25 = .ok (.getfield 129, 3) := by decide +kernel
theorem dX11_far_28 : decode cX11_far 28 = .ok (.iload_n 1, 1) := by decide +kernel
theorem dX11_far_29 : decode cX11_far 29 = .ok (.aaload, 1) := by decide +kernel
theorem dX11_far_30 : decode cX11_far 30 = .ok (.iload_n 2, 1) := by decide +kernel
theorem dX11_far_31 : decode cX11_far 31 = .ok (.iaload, 1) := by decide +kernel
theorem dX11_far_32 : decode cX11_far 32 = .ok (.ireturn, 1) := by decide +kernel
theorem dX11_street_0 : decode cX11_street 0 = .ok (.aload_n 0, 1) := by decide +kernel
theorem dX11_street_1 : decode cX11_street 1 = .ok (.iload_n 1, 1) := by decide +kernel
theorem dX11_street_2 : decode cX11_street 2 = .ok (.invokevirtual 146, 3) := by decide +kernel
theorem dX11_street_5 : decode cX11_street 5 = .ok (.ifCond .eq 11, 3) := by decide +kernel
theorem dX11_street_8 : decode cX11_street 8 = .ok (.aload_n 0, 1) := by decide +kernel
theorem dX11_street_9 : decode cX11_street 9 = .ok (.iload_n 2, 1) := by decide +kernel
theorem dX11_street_10 : decode cX11_street 10 = .ok (.invokevirtual 146, 3) := by decide +kernel
theorem dX11_street_13 : decode cX11_street 13 = .ok (.ifCond .ne 5, 3) := by decide +kernel
theorem dX11_street_16 : decode cX11_street 16 = .ok (.iconst (-1), 1) := by decide +kernel
theorem dX11_street_17 : decode cX11_street 17 = .ok (.ireturn, 1) := by decide +kernel
theorem dX11_street_18 : decode cX11_street 18 = .ok (.aload_n 0, 1) := by decide +kernel
theorem dX11_street_19 : decode cX11_street 19 = .ok (.getfield 26, 3) := by decide +kernel
theorem dX11_street_22 : decode cX11_street 22 = .ok (.getfield 125, 3) := by decide +kernel
theorem dX11_street_25 : decode cX11_street 25 = .ok (.getfield 150, 3) := by decide +kernel
theorem dX11_street_28 : decode cX11_street 28 = .ok (.iload_n 1, 1) := by decide +kernel
theorem dX11_street_29 : decode cX11_street 29 = .ok (.aaload, 1) := by decide +kernel
theorem dX11_street_30 : decode cX11_street 30 = .ok (.iload_n 2, 1) := by decide +kernel
theorem dX11_street_31 : decode cX11_street 31 = .ok (.iaload, 1) := by decide +kernel
theorem dX11_street_32 : decode cX11_street 32 = .ok (.istore_n 3, 1) := by decide +kernel
theorem dX11_street_33 : decode cX11_street 33 = .ok (.iload_n 3, 1) := by decide +kernel
theorem dX11_street_34 : decode cX11_street 34 = .ok (.ifCond .le 7, 3) := by decide +kernel
theorem dX11_street_37 : decode cX11_street 37 = .ok (.iload_n 3, 1) := by decide +kernel
theorem dX11_street_38 : decode cX11_street 38 = .ok (.goto 5, 3) := by decide +kernel
theorem dX11_street_41 : decode cX11_street 41 = .ok (.bipush (-4), 2) := by decide +kernel
theorem dX11_street_43 : decode cX11_street 43 = .ok (.ireturn, 1) := by decide +kernel
theorem dX11_sign_0 : decode cX11_sign 0 = .ok (.aload_n 0, 1) := by decide +kernel
theorem dX11_sign_1 : decode cX11_sign 1 = .ok (.iload_n 1, 1) := by decide +kernel
theorem dX11_sign_2 : decode cX11_sign 2 = .ok (.invokevirtual 153, 3) := by decide +kernel
theorem dX11_sign_5 : decode cX11_sign 5 = .ok (.ifCond .ne 5, 3) := by decide +kernel
theorem dX11_sign_8 : decode cX11_sign 8 = .ok (.iconst (-1), 1) := by decide +kernel
theorem dX11_sign_9 : decode cX11_sign 9 = .ok (.ireturn, 1) := by decide +kernel
theorem dX11_sign_10 : decode cX11_sign 10 = .ok (.iload_n 2, 1) := by decide +kernel
theorem dX11_sign_11 : decode cX11_sign 11 = .ok (.tableswitch 64 0 2 #[25, 38, 51], 25) := by decide +kernel
theorem dX11_sign_36 : decode cX11_sign 36 = .ok (.aload_n 0, 1) := by decide +kernel
theorem dX11_sign_37 : decode cX11_sign 37 = .ok (.getfield 26, 3) := by decide +kernel
theorem dX11_sign_40 : decode cX11_sign 40 = .ok (.getfield 156, 3) := by decide +kernel
theorem dX11_sign_43 : decode cX11_sign 43 = .ok (.getfield 159, 3) := by decide +kernel
theorem dX11_sign_46 : decode cX11_sign 46 = .ok (.iload_n 1, 1) := by decide +kernel
theorem dX11_sign_47 : decode cX11_sign 47 = .ok (.iaload, 1) := by decide +kernel
theorem dX11_sign_48 : decode cX11_sign 48 = .ok (.ireturn, 1) := by decide +kernel
theorem dX11_sign_49 : decode cX11_sign 49 = .ok (.aload_n 0, 1) := by decide +kernel
theorem dX11_sign_50 : decode cX11_sign 50 = .ok (.getfield 26, 3) := by decide +kernel
theorem dX11_sign_53 : decode cX11_sign 53 = .ok (.getfield 156, 3) := by decide +kernel
theorem dX11_sign_56 : decode cX11_sign 56 = .ok (.getfield 161, 3) := by decide +kernel
theorem dX11_sign_59 : decode cX11_sign 59 = .ok (.iload_n 1, 1) := by decide +kernel
theorem dX11_sign_60 : decode cX11_sign 60 = .ok (.iaload, 1) := by decide +kernel
theorem dX11_sign_61 : decode cX11_sign 61 = .ok (.ireturn, 1) := by decide +kernel
theorem dX11_sign_62 : decode cX11_sign 62 = .ok (.aload_n 0, 1) := by decide +kernel
theorem dX11_sign_63 : decode cX11_sign 63 = .ok (.getfield 26, 3) := by decide +kernel
theorem dX11_sign_66 : decode cX11_sign 66 = .ok (.getfield 156, 3) := by decide +kernel
theorem dX11_sign_69 : decode cX11_sign 69 = .ok (.getfield 164, 3) := by decide +kernel
theorem dX11_sign_72 : decode cX11_sign 72 = .ok (.iload_n 1, 1) := by decide +kernel
theorem dX11_sign_73 : decode cX11_sign 73 = .ok (.iaload, 1) := by decide +kernel
theorem dX11_sign_74 : decode cX11_sign 74 = .ok (.ireturn, 1) := by decide +kernel
theorem dX11_sign_75 : decode cX11_sign 75 = .ok (.iconst (-1), 1) := by decide +kernel
theorem dX11_sign_76 : decode cX11_sign 76 = .ok (.ireturn, 1) := by decide +kernel
theorem dX11_walker_0 : decode cX11_walker 0 = .ok (.aload_n 0, 1) := by decide +kernel
theorem dX11_walker_1 : decode cX11_walker 1 = .ok (.iload_n 1, 1) := by decide +kernel
theorem dX11_walker_2 : decode cX11_walker 2 = .ok (.invokevirtual 167, 3) := by decide +kernel
theorem dX11_walker_5 : decode cX11_walker 5 = .ok (.ifCond .ne 5, 3) := by decide +kernel
theorem dX11_walker_8 : decode cX11_walker 8 = .ok (.iconst (-1), 1) := by decide +kernel
theorem dX11_walker_9 : decode cX11_walker 9 = .ok (.ireturn, 1) := by decide +kernel
theorem dX11_walker_10 : decode cX11_walker 10 = .ok (.iload_n 2, 1) := by decide +kernel
theorem dX11_walker_11 : decode cX11_walker 11 = .ok (.tableswitch 81 0 3 #[29, 42, 55, 68], 29) := by decide +kernel
theorem dX11_walker_40 : decode cX11_walker 40 = .ok (.aload_n 0, 1) := by decide +kernel
theorem dX11_walker_41 : decode cX11_walker 41 = .ok (.getfield 26, 3) := by decide +kernel
theorem dX11_walker_44 : decode cX11_walker 44 = .ok (.getfield 116, 3) := by decide +kernel
theorem dX11_walker_47 : decode cX11_walker 47 = .ok (.getfield 170, 3) := by decide +kernel
theorem dX11_walker_50 : decode cX11_walker 50 = .ok (.iload_n 1, 1) := by decide +kernel
theorem dX11_walker_51 : decode cX11_walker 51 = .ok (.iaload, 1) := by decide +kernel
theorem dX11_walker_52 : decode cX11_walker 52 = .ok (.ireturn, 1) := by decide +kernel
theorem dX11_walker_53 : decode cX11_walker 53 = .ok (.aload_n 0, 1) := by decide +kernel
theorem dX11_walker_54 : decode cX11_walker 54 = .ok (.getfield 26, 3) := by decide +kernel
theorem dX11_walker_57 : decode cX11_walker 57 = .ok (.getfield 116, 3) := by decide +kernel
theorem dX11_walker_60 : decode cX11_walker 60 = .ok (.getfield 173, 3) := by decide +kernel
theorem dX11_walker_63 : decode cX11_walker 63 = .ok (.iload_n 1, 1) := by decide +kernel
theorem dX11_walker_64 : decode cX11_walker 64 = .ok (.iaload, 1) := by decide +kernel
theorem dX11_walker_65 : decode cX11_walker 65 = .ok (.ireturn, 1) := by decide +kernel
theorem dX11_walker_66 : decode cX11_walker 66 = .ok (.aload_n 0, 1) := by decide +kernel
theorem dX11_walker_67 : decode cX11_walker 67 = .ok (.getfield 26, 3) := by decide +kernel
theorem dX11_walker_70 : decode cX11_walker 70 = .ok (.getfield 116, 3) := by decide +kernel
theorem dX11_walker_73 : decode cX11_walker 73 = .ok (.getfield 176, 3) := by decide +kernel
theorem dX11_walker_76 : decode cX11_walker 76 = .ok (.iload_n 1, 1) := by decide +kernel
theorem dX11_walker_77 : decode cX11_walker 77 = .ok (.iaload, 1) := by decide +kernel
theorem dX11_walker_78 : decode cX11_walker 78 = .ok (.ireturn, 1) := by decide +kernel
theorem dX11_walker_79 : decode cX11_walker 79 = .ok (.aload_n 0, 1) := by decide +kernel
theorem dX11_walker_80 : decode cX11_walker 80 = .ok (.getfield 26, 3) := by decide +kernel
theorem dX11_walker_83 : decode cX11_walker 83 = .ok (.getfield 116, 3) := by decide +kernel
theorem dX11_walker_86 : decode cX11_walker 86 = .ok (.getfield 177, 3) := by decide +kernel
theorem dX11_walker_89 : decode cX11_walker 89 = .ok (.iload_n 1, 1) := by decide +kernel
