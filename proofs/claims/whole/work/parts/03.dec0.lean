theorem dX0_init_0 : decode cX0_init 0 = .ok (.aload_n 0, 1) := by decide +kernel
theorem dX0_init_1 : decode cX0_init 1 = .ok (.invokespecial 3, 3) := by decide +kernel
theorem dX0_init_4 : decode cX0_init 4 = .ok (.aload_n 0, 1) := by decide +kernel
theorem dX0_init_5 : decode cX0_init 5 = .ok (.bipush 8, 2) := by decide +kernel
theorem dX0_init_7 : decode cX0_init 7 = .ok (.newarray .int, 2) := by decide +kernel
theorem dX0_init_9 : decode cX0_init 9 = .ok (.putfield 9, 3) := by decide +kernel
theorem dX0_init_12 : decode cX0_init 12 = .ok (.aload_n 0, 1) := by decide +kernel
theorem dX0_init_13 : decode cX0_init 13 = .ok (.bipush 8, 2) := by decide +kernel
theorem dX0_init_15 : decode cX0_init 15 = .ok (.newarray .int, 2) := by decide +kernel
theorem dX0_init_17 : decode cX0_init 17 = .ok (.putfield 15, 3) := by decide +kernel
theorem dX0_init_20 : decode cX0_init 20 = .ok (.aload_n 0, 1) := by decide +kernel
theorem dX0_init_21 : decode cX0_init 21 = .ok (.bipush 8, 2) := by decide +kernel
theorem dX0_init_23 : decode cX0_init 23 = .ok (.newarray .int, 2) := by decide +kernel
theorem dX0_init_25 : decode cX0_init 25 = .ok (.putfield 18, 3) := by decide +kernel
theorem dX0_init_28 : decode cX0_init 28 = .ok (.aload_n 0, 1) := by decide +kernel
theorem dX0_init_29 : decode cX0_init 29 = .ok (.bipush 8, 2) := by decide +kernel
theorem dX0_init_31 : decode cX0_init 31 = .ok (.newarray .int, 2) := by decide +kernel
theorem dX0_init_33 : decode cX0_init 33 = .ok (.putfield 21, 3) := by decide +kernel
theorem dX0_init_36 : decode cX0_init 36 = .ok (.aload_n 0, 1) := by decide +kernel
theorem dX0_init_37 : decode cX0_init 37 = .ok (.bipush 8, 2) := by decide +kernel
theorem dX0_init_39 : decode cX0_init 39 = .ok (.newarray .int, 2) := by decide +kernel
theorem dX0_init_41 : decode cX0_init 41 = .ok (.putfield 24, 3) := by decide +kernel
theorem dX0_init_44 : decode cX0_init 44 = .ok (.return_, 1) := by decide +kernel
theorem dX0_clear_0 : decode cX0_clear 0 = .ok (.aload_n 0, 1) := by decide +kernel
theorem dX0_clear_1 : decode cX0_clear 1 = .ok (.iconst 0, 1) := by decide +kernel
theorem dX0_clear_2 : decode cX0_clear 2 = .ok (.putfield 27, 3) := by decide +kernel
theorem dX0_clear_5 : decode cX0_clear 5 = .ok (.aload_n 0, 1) := by decide +kernel
theorem dX0_clear_6 : decode cX0_clear 6 = .ok (.iconst 0, 1) := by decide +kernel
theorem dX0_clear_7 : decode cX0_clear 7 = .ok (.putfield 31, 3) := by decide +kernel
theorem dX0_clear_10 : decode cX0_clear 10 = .ok (.return_, 1) := by decide +kernel
theorem dX0_note_0 : decode cX0_note 0 = .ok (.aload_n 0, 1) := by decide +kernel
theorem dX0_note_1 : decode cX0_note 1 = .ok (.getfield 31, 3) := by decide +kernel
theorem dX0_note_4 : decode cX0_note 4 = .ok (.bipush 8, 2) := by decide +kernel
theorem dX0_note_6 : decode cX0_note 6 = .ok (.if_icmp .lt 22, 3) := by decide +kernel
theorem dX0_note_9 : decode cX0_note 9 = .ok (.aload_n 0, 1) := by decide +kernel
theorem dX0_note_10 : decode cX0_note 10 = .ok (.aload_n 0, 1) := by decide +kernel
theorem dX0_note_11 : decode cX0_note 11 = .ok (.getfield 27, 3) := by decide +kernel
theorem dX0_note_14 : decode cX0_note 14 = .ok (.iconst 1, 1) := by decide +kernel
theorem dX0_note_15 : decode cX0_note 15 = .ok (.iadd, 1) := by decide +kernel
theorem dX0_note_16 : decode cX0_note 16 = .ok (.bipush 8, 2) := by decide +kernel
theorem dX0_note_18 : decode cX0_note 18 = .ok (.irem, 1) := by decide +kernel
theorem dX0_note_19 : decode cX0_note 19 = .ok (.putfield 27, 3) := by decide +kernel
theorem dX0_note_22 : decode cX0_note 22 = .ok (.aload_n 0, 1) := by decide +kernel
theorem dX0_note_23 : decode cX0_note 23 = .ok (.bipush 7, 2) := by decide +kernel
theorem dX0_note_25 : decode cX0_note 25 = .ok (.putfield 31, 3) := by decide +kernel
theorem dX0_note_28 : decode cX0_note 28 = .ok (.aload_n 0, 1) := by decide +kernel
theorem dX0_note_29 : decode cX0_note 29 = .ok (.getfield 27, 3) := by decide +kernel
theorem dX0_note_32 : decode cX0_note 32 = .ok (.aload_n 0, 1) := by decide +kernel
theorem dX0_note_33 : decode cX0_note 33 = .ok (.getfield 31, 3) := by decide +kernel
theorem dX0_note_36 : decode cX0_note 36 = .ok (.iadd, 1) := by decide +kernel
theorem dX0_note_37 : decode cX0_note 37 = .ok (.bipush 8, 2) := by decide +kernel
theorem dX0_note_39 : decode cX0_note 39 = .ok (.irem, 1) := by decide +kernel
theorem dX0_note_40 : decode cX0_note 40 = .ok (.istore 6, 2) := by decide +kernel
theorem dX0_note_42 : decode cX0_note 42 = .ok (.aload_n 0, 1) := by decide +kernel
theorem dX0_note_43 : decode cX0_note 43 = .ok (.getfield 9, 3) := by decide +kernel
theorem dX0_note_46 : decode cX0_note 46 = .ok (.iload 6, 2) := by decide +kernel
theorem dX0_note_48 : decode cX0_note 48 = .ok (.iload_n 1, 1) := by decide +kernel
theorem dX0_note_49 : decode cX0_note 49 = .ok (.iastore, 1) := by decide +kernel
theorem dX0_note_50 : decode cX0_note 50 = .ok (.aload_n 0, 1) := by decide +kernel
theorem dX0_note_51 : decode cX0_note 51 = .ok (.getfield 15, 3) := by decide +kernel
theorem dX0_note_54 : decode cX0_note 54 = .ok (.iload 6, 2) := by decide +kernel
theorem dX0_note_56 : decode cX0_note 56 = .ok (.iload_n 2, 1) := by decide +kernel
theorem dX0_note_57 : decode cX0_note 57 = .ok (.iastore, 1) := by decide +kernel
theorem dX0_note_58 : decode cX0_note 58 = .ok (.aload_n 0, 1) := by decide +kernel
theorem dX0_note_59 : decode cX0_note 59 = .ok (.getfield 18, 3) := by decide +kernel
theorem dX0_note_62 : decode cX0_note 62 = .ok (.iload 6, 2) := by decide +kernel
theorem dX0_note_64 : decode cX0_note 64 = .ok (.iload_n 3, 1) := by decide +kernel
theorem dX0_note_65 : decode cX0_note 65 = .ok (.iastore, 1) := by decide +kernel
theorem dX0_note_66 : decode cX0_note 66 = .ok (.aload_n 0, 1) := by decide +kernel
theorem dX0_note_67 : decode cX0_note 67 = .ok (.getfield 21, 3) := by decide +kernel
theorem dX0_note_70 : decode cX0_note 70 = .ok (.iload 6, 2) := by decide +kernel
theorem dX0_note_72 : decode cX0_note 72 = .ok (.iload 4, 2) := by decide +kernel
theorem dX0_note_74 : decode cX0_note 74 = .ok (.iastore, 1) := by decide +kernel
theorem dX0_note_75 : decode cX0_note 75 = .ok (.aload_n 0, 1) := by decide +kernel
theorem dX0_note_76 : decode cX0_note 76 = .ok (.getfield 24, 3) := by decide +kernel
theorem dX0_note_79 : decode cX0_note 79 = .ok (.iload 6, 2) := by decide +kernel
theorem dX0_note_81 : decode cX0_note 81 = .ok (.iload 5, 2) := by decide +kernel
theorem dX0_note_83 : decode cX0_note 83 = .ok (.iastore, 1) := by decide +kernel
theorem dX0_note_84 : decode cX0_note 84 = .ok (.aload_n 0, 1) := by decide +kernel
theorem dX0_note_85 : decode cX0_note 85 = .ok (.dup, 1) := by decide +kernel
theorem dX0_note_86 : decode cX0_note 86 = .ok (.getfield 31, 3) := by decide +kernel
theorem dX0_note_89 : decode cX0_note 89 = .ok (.iconst 1, 1) := by decide +kernel
theorem dX0_note_90 : decode cX0_note 90 = .ok (.iadd, 1) := by decide +kernel
theorem dX0_note_91 : decode cX0_note 91 = .ok (.putfield 31, 3) := by decide +kernel
theorem dX0_note_94 : decode cX0_note 94 = .ok (.return_, 1) := by decide +kernel
theorem dX0_revertLatest_0 : decode cX0_revertLatest 0 = .ok (.aload_n 0, 1) := by decide +kernel
theorem dX0_revertLatest_1 : decode cX0_revertLatest 1 = .ok (.getfield 31, 3) := by decide +kernel
theorem dX0_revertLatest_4 : decode cX0_revertLatest 4 = .ok (.ifCond .ne 4, 3) := by decide +kernel
theorem dX0_revertLatest_7 : decode cX0_revertLatest 7 = .ok (.return_, 1) := by decide +kernel
theorem dX0_revertLatest_8 : decode cX0_revertLatest 8 = .ok (.aload_n 0, 1) := by decide +kernel
theorem dX0_revertLatest_9 : decode cX0_revertLatest 9 = .ok (.dup, 1) := by decide +kernel
theorem dX0_revertLatest_10 : decode cX0_revertLatest 10 = .ok (.getfield 31, 3) := by decide +kernel
theorem dX0_revertLatest_13 : decode cX0_revertLatest 13 = .ok (.iconst 1, 1) := by decide +kernel
theorem dX0_revertLatest_14 : decode cX0_revertLatest 14 = .ok (.isub, 1) := by decide +kernel
theorem dX0_revertLatest_15 : decode cX0_revertLatest 15 = .ok (.putfield 31, 3) := by decide +kernel
theorem dX0_revertLatest_18 : decode cX0_revertLatest 18 = .ok (.aload_n 0, 1) := by decide +kernel
theorem dX0_revertLatest_19 : decode cX0_revertLatest 19 = .ok (.getfield 27, 3) := by decide +kernel
theorem dX0_revertLatest_22 : decode cX0_revertLatest 22 = .ok (.aload_n 0, 1) := by decide +kernel
theorem dX0_revertLatest_23 : decode cX0_revertLatest 23 = .ok (.getfield 31, 3) := by decide +kernel
theorem dX0_revertLatest_26 : decode cX0_revertLatest 26 = .ok (.iadd, 1) := by decide +kernel
theorem dX0_revertLatest_27 : decode cX0_revertLatest 27 = .ok (.bipush 8, 2) := by decide +kernel
theorem dX0_revertLatest_29 : decode cX0_revertLatest 29 = .ok (.irem, 1) := by decide +kernel
theorem dX0_revertLatest_30 : decode cX0_revertLatest 30 = .ok (.istore_n 2, 1) := by decide +kernel
theorem dX0_revertLatest_31 : decode cX0_revertLatest 31 = .ok (.aload_n 0, 1) := by decide +kernel
theorem dX0_revertLatest_32 : decode cX0_revertLatest 32 = .ok (.getfield 9, 3) := by decide +kernel
theorem dX0_revertLatest_35 : decode cX0_revertLatest 35 = .ok (.iload_n 2, 1) := by decide +kernel
theorem dX0_revertLatest_36 : decode cX0_revertLatest 36 = .ok (.iaload, 1) := by decide +kernel
theorem dX0_revertLatest_37 : decode cX0_revertLatest 37 = .ok (.lookupswitch 77 #[(0, 27), (1, 43)], 27) := by decide +kernel
theorem dX0_revertLatest_64 : decode cX0_revertLatest 64 = .ok (.aload_n 1, 1) := by decide +kernel
theorem dX0_revertLatest_65 : decode cX0_revertLatest 65 = .ok (.getfield 34, 3) := by decide +kernel
theorem dX0_revertLatest_68 : decode cX0_revertLatest 68 = .ok (.aload_n 0, 1) := by decide +kernel
theorem dX0_revertLatest_69 : decode cX0_revertLatest 69 = .ok (.getfield 15, 3) := by decide +kernel
theorem dX0_revertLatest_72 : decode cX0_revertLatest 72 = .ok (.iload_n 2, 1) := by decide +kernel
theorem dX0_revertLatest_73 : decode cX0_revertLatest 73 = .ok (.iaload, 1) := by decide +kernel
theorem dX0_revertLatest_74 : decode cX0_revertLatest 74 = .ok (.invokevirtual 40, 3) := by decide +kernel
theorem dX0_revertLatest_77 : decode cX0_revertLatest 77 = .ok (.goto 57, 3) := by decide +kernel
theorem dX0_revertLatest_80 : decode cX0_revertLatest 80 = .ok (.aload_n 1, 1) := by decide +kernel
theorem dX0_revertLatest_81 : decode cX0_revertLatest 81 = .ok (.getfield 34, 3) := by decide +kernel
theorem dX0_revertLatest_84 : decode cX0_revertLatest 84 = .ok (.aload_n 0, 1) := by decide +kernel
theorem dX0_revertLatest_85 : decode cX0_revertLatest 85 = .ok (.getfield 15, 3) := by decide +kernel
theorem dX0_revertLatest_88 : decode cX0_revertLatest 88 = .ok (.iload_n 2, 1) := by decide +kernel
theorem dX0_revertLatest_89 : decode cX0_revertLatest 89 = .ok (.iaload, 1) := by decide +kernel
theorem dX0_revertLatest_90 : decode cX0_revertLatest 90 = .ok (.aload_n 0, 1) := by decide +kernel
theorem dX0_revertLatest_91 : decode cX0_revertLatest 91 = .ok (.getfield 18, 3) := by decide +kernel
theorem dX0_revertLatest_94 : decode cX0_revertLatest 94 = .ok (.iload_n 2, 1) := by decide +kernel
theorem dX0_revertLatest_95 : decode cX0_revertLatest 95 = .ok (.iaload, 1) := by decide +kernel
theorem dX0_revertLatest_96 : decode cX0_revertLatest 96 = .ok (.aload_n 0, 1) := by decide +kernel
theorem dX0_revertLatest_97 : decode cX0_revertLatest 97 = .ok (.getfield 21, 3) := by decide +kernel
theorem dX0_revertLatest_100 : decode cX0_revertLatest 100 = .ok (.iload_n 2, 1) := by decide +kernel
theorem dX0_revertLatest_101 : decode cX0_revertLatest 101 = .ok (.iaload, 1) := by decide +kernel
theorem dX0_revertLatest_102 : decode cX0_revertLatest 102 = .ok (.aload_n 0, 1) := by decide +kernel
theorem dX0_revertLatest_103 : decode cX0_revertLatest 103 = .ok (.getfield 24, 3) := by decide +kernel
theorem dX0_revertLatest_106 : decode cX0_revertLatest 106 = .ok (.iload_n 2, 1) := by decide +kernel
theorem dX0_revertLatest_107 : decode cX0_revertLatest 107 = .ok (.iaload, 1) := by decide +kernel
theorem dX0_revertLatest_108 : decode cX0_revertLatest 108 = .ok (.invokevirtual 46, 3) := by decide +kernel
theorem dX0_revertLatest_111 : decode cX0_revertLatest 111 = .ok (.goto 23, 3) := by decide +kernel
theorem dX0_revertLatest_114 : decode cX0_revertLatest 114 = .ok (.aload_n 1, 1) := by decide +kernel
theorem dX0_revertLatest_115 : decode cX0_revertLatest 115 = .ok (.getfield 50, 3) := by decide +kernel
theorem dX0_revertLatest_118 : decode cX0_revertLatest 118 = .ok (.getfield 54, 3) := by decide +kernel
theorem dX0_revertLatest_121 : decode cX0_revertLatest 121 = .ok (.aload_n 0, 1) := by decide +kernel
theorem dX0_revertLatest_122 : decode cX0_revertLatest 122 = .ok (.getfield 15, 3) := by decide +kernel
theorem dX0_revertLatest_125 : decode cX0_revertLatest 125 = .ok (.iload_n 2, 1) := by decide +kernel
theorem dX0_revertLatest_126 : decode cX0_revertLatest 126 = .ok (.iaload, 1) := by decide +kernel
theorem dX0_revertLatest_127 : decode cX0_revertLatest 127 = .ok (.aload_n 0, 1) := by decide +kernel
theorem dX0_revertLatest_128 : decode cX0_revertLatest 128 = .ok (.getfield 21, 3) := by decide +kernel
theorem dX0_revertLatest_131 : decode cX0_revertLatest 131 = .ok (.iload_n 2, 1) := by decide +kernel
theorem dX0_revertLatest_132 : decode cX0_revertLatest 132 = .ok (.iaload, 1) := by decide +kernel
theorem dX0_revertLatest_133 : decode cX0_revertLatest 133 = .ok (.iastore, 1) := by decide +kernel
theorem dX0_revertLatest_134 : decode cX0_revertLatest 134 = .ok (.return_, 1) := by decide +kernel
theorem dX1_init_0 : decode cX1_init 0 = .ok (.aload_n 0, 1) := by decide +kernel
theorem dX1_init_1 : decode cX1_init 1 = .ok (.invokespecial 3, 3) := by decide +kernel
theorem dX1_init_4 : decode cX1_init 4 = .ok (.return_, 1) := by decide +kernel
theorem dX1_clear_0 : decode cX1_clear 0 = .ok (.aload_n 0, 1) := by decide +kernel
theorem dX1_clear_1 : decode cX1_clear 1 = .ok (.bipush (-4), 2) := by decide +kernel
theorem dX1_clear_3 : decode cX1_clear 3 = .ok (.putfield 9, 3) := by decide +kernel
theorem dX1_clear_6 : decode cX1_clear 6 = .ok (.aload_n 0, 1) := by decide +kernel
theorem dX1_clear_7 : decode cX1_clear 7 = .ok (.bipush (-4), 2) := by decide +kernel
theorem dX1_clear_9 : decode cX1_clear 9 = .ok (.putfield 15, 3) := by decide +kernel
theorem dX1_clear_12 : decode cX1_clear 12 = .ok (.return_, 1) := by decide +kernel
theorem dX1_offerMost_0 : decode cX1_offerMost 0 = .ok (.aload_n 0, 1) := by decide +kernel
theorem dX1_offerMost_1 : decode cX1_offerMost 1 = .ok (.getfield 9, 3) := by decide +kernel
theorem dX1_offerMost_4 : decode cX1_offerMost 4 = .ok (.bipush (-4), 2) := by decide +kernel
theorem dX1_offerMost_6 : decode cX1_offerMost 6 = .ok (.if_icmp .eq 11, 3) := by decide +kernel
theorem dX1_offerMost_9 : decode cX1_offerMost 9 = .ok (.iload_n 2, 1) := by decide +kernel
theorem dX1_offerMost_10 : decode cX1_offerMost 10 = .ok (.aload_n 0, 1) := by decide +kernel
theorem dX1_offerMost_11 : decode cX1_offerMost 11 = .ok (.getfield 15, 3) := by decide +kernel
theorem dX1_offerMost_14 : decode cX1_offerMost 14 = .ok (.if_icmp .le 13, 3) := by decide +kernel
theorem dX1_offerMost_17 : decode cX1_offerMost 17 = .ok (.aload_n 0, 1) := by decide +kernel
theorem dX1_offerMost_18 : decode cX1_offerMost 18 = .ok (.iload_n 1, 1) := by decide +kernel
theorem dX1_offerMost_19 : decode cX1_offerMost 19 = .ok (.putfield 9, 3) := by decide +kernel
theorem dX1_offerMost_22 : decode cX1_offerMost 22 = .ok (.aload_n 0, 1) := by decide +kernel
theorem dX1_offerMost_23 : decode cX1_offerMost 23 = .ok (.iload_n 2, 1) := by decide +kernel
theorem dX1_offerMost_24 : decode cX1_offerMost 24 = .ok (.putfield 15, 3) := by decide +kernel
theorem dX1_offerMost_27 : decode cX1_offerMost 27 = .ok (.return_, 1) := by decide +kernel
theorem dX1_offerLeast_0 : decode cX1_offerLeast 0 = .ok (.aload_n 0, 1) := by decide +kernel
theorem dX1_offerLeast_1 : decode cX1_offerLeast 1 = .ok (.getfield 9, 3) := by decide +kernel
theorem dX1_offerLeast_4 : decode cX1_offerLeast 4 = .ok (.bipush (-4), 2) := by decide +kernel
theorem dX1_offerLeast_6 : decode cX1_offerLeast 6 = .ok (.if_icmp .eq 11, 3) := by decide +kernel
theorem dX1_offerLeast_9 : decode cX1_offerLeast 9 = .ok (.iload_n 2, 1) := by decide +kernel
theorem dX1_offerLeast_10 : decode cX1_offerLeast 10 = .ok (.aload_n 0, 1) := by decide +kernel
theorem dX1_offerLeast_11 : decode cX1_offerLeast 11 = .ok (.getfield 15, 3) := by decide +kernel
theorem dX1_offerLeast_14 : decode cX1_offerLeast 14 = .ok (.if_icmp .ge 13, 3) := by decide +kernel
theorem dX1_offerLeast_17 : decode cX1_offerLeast 17 = .ok (.aload_n 0, 1) := by decide +kernel
theorem dX1_offerLeast_18 : decode cX1_offerLeast 18 = .ok (.iload_n 1, 1) := by decide +kernel
theorem dX1_offerLeast_19 : decode cX1_offerLeast 19 = .ok (.putfield 9, 3) := by decide +kernel
theorem dX1_offerLeast_22 : decode cX1_offerLeast 22 = .ok (.aload_n 0, 1) := by decide +kernel
theorem dX1_offerLeast_23 : decode cX1_offerLeast 23 = .ok (.iload_n 2, 1) := by decide +kernel
theorem dX1_offerLeast_24 : decode cX1_offerLeast 24 = .ok (.putfield 15, 3) := by decide +kernel
theorem dX1_offerLeast_27 : decode cX1_offerLeast 27 = .ok (.return_, 1) := by decide +kernel
theorem dX1_answer_0 : decode cX1_answer 0 = .ok (.iload_n 1, 1) := by decide +kernel
theorem dX1_answer_1 : decode cX1_answer 1 = .ok (.ifCond .ne 10, 3) := by decide +kernel
theorem dX1_answer_4 : decode cX1_answer 4 = .ok (.aload_n 0, 1) := by decide +kernel
theorem dX1_answer_5 : decode cX1_answer 5 = .ok (.getfield 9, 3) := by decide +kernel
theorem dX1_answer_8 : decode cX1_answer 8 = .ok (.goto 7, 3) := by decide +kernel
theorem dX1_answer_11 : decode cX1_answer 11 = .ok (.aload_n 0, 1) := by decide +kernel
theorem dX1_answer_12 : decode cX1_answer 12 = .ok (.getfield 15, 3) := by decide +kernel
theorem dX1_answer_15 : decode cX1_answer 15 = .ok (.ireturn, 1) := by decide +kernel
theorem dX2_init_0 : decode cX2_init 0 = .ok (.aload_n 0, 1) := by decide +kernel
theorem dX2_init_1 : decode cX2_init 1 = .ok (.invokespecial 3, 3) := by decide +kernel
theorem dX2_init_4 : decode cX2_init 4 = .ok (.aload_n 0, 1) := by decide +kernel
theorem dX2_init_5 : decode cX2_init 5 = .ok (.iconst 3, 1) := by decide +kernel
theorem dX2_init_6 : decode cX2_init 6 = .ok (.newarray .int, 2) := by decide +kernel
theorem dX2_init_8 : decode cX2_init 8 = .ok (.putfield 9, 3) := by decide +kernel
theorem dX2_init_11 : decode cX2_init 11 = .ok (.return_, 1) := by decide +kernel
theorem dX2_readInto_0 : decode cX2_readInto 0 = .ok (.aload_n 1, 1) := by decide +kernel
theorem dX2_readInto_1 : decode cX2_readInto 1 = .ok (.invokevirtual 15, 3) := by decide +kernel
theorem dX2_readInto_4 : decode cX2_readInto 4 = .ok (.aload_n 0, 1) := by decide +kernel
theorem dX2_readInto_5 : decode cX2_readInto 5 = .ok (.iconst 0, 1) := by decide +kernel
theorem dX2_readInto_6 : decode cX2_readInto 6 = .ok (.putfield 20, 3) := by decide +kernel
theorem dX2_readInto_9 : decode cX2_readInto 9 = .ok (.aload_n 0, 1) := by decide +kernel
theorem dX2_readInto_10 : decode cX2_readInto 10 = .ok (.iconst 1, 1) := by decide +kernel
theorem dX2_readInto_11 : decode cX2_readInto 11 = .ok (.putfield 24, 3) := by decide +kernel
theorem dX2_readInto_14 : decode cX2_readInto 14 = .ok (.iconst 0, 1) := by decide +kernel
theorem dX2_readInto_15 : decode cX2_readInto 15 = .ok (.istore_n 3, 1) := by decide +kernel
theorem dX2_readInto_16 : decode cX2_readInto 16 = .ok (.iload_n 3, 1) := by decide +kernel
theorem dX2_readInto_17 : decode cX2_readInto 17 = .ok (.sipush 200, 3) := by decide +kernel
theorem dX2_readInto_20 : decode cX2_readInto 20 = .ok (.if_icmp .ge 79, 3) := by decide +kernel
theorem dX2_readInto_23 : decode cX2_readInto 23 = .ok (.aload_n 0, 1) := by decide +kernel
theorem dX2_readInto_24 : decode cX2_readInto 24 = .ok (.getfield 20, 3) := by decide +kernel
theorem dX2_readInto_27 : decode cX2_readInto 27 = .ok (.aload_n 2, 1) := by decide +kernel
theorem dX2_readInto_28 : decode cX2_readInto 28 = .ok (.getfield 28, 3) := by decide +kernel
theorem dX2_readInto_31 : decode cX2_readInto 31 = .ok (.if_icmp .ge 68, 3) := by decide +kernel
theorem dX2_readInto_34 : decode cX2_readInto 34 = .ok (.aload_n 0, 1) := by decide +kernel
theorem dX2_readInto_35 : decode cX2_readInto 35 = .ok (.getfield 20, 3) := by decide +kernel
theorem dX2_readInto_38 : decode cX2_readInto 38 = .ok (.istore 4, 2) := by decide +kernel
theorem dX2_readInto_40 : decode cX2_readInto 40 = .ok (.aload_n 2, 1) := by decide +kernel
theorem dX2_readInto_41 : decode cX2_readInto 41 = .ok (.aload_n 0, 1) := by decide +kernel
theorem dX2_readInto_42 : decode cX2_readInto 42 = .ok (.getfield 20, 3) := by decide +kernel
theorem dX2_readInto_45 : decode cX2_readInto 45 = .ok (.invokevirtual 33, 3) := by decide +kernel
theorem dX2_readInto_48 : decode cX2_readInto 48 = .ok (.istore 5, 2) := by decide +kernel
theorem dX2_readInto_50 : decode cX2_readInto 50 = .ok (.aload_n 0, 1) := by decide +kernel
theorem dX2_readInto_51 : decode cX2_readInto 51 = .ok (.dup, 1) := by decide +kernel
theorem dX2_readInto_52 : decode cX2_readInto 52 = .ok (.getfield 20, 3) := by decide +kernel
theorem dX2_readInto_55 : decode cX2_readInto 55 = .ok (.iconst 1, 1) := by decide +kernel
theorem dX2_readInto_56 : decode cX2_readInto 56 = .ok (.iadd, 1) := by decide +kernel
theorem dX2_readInto_57 : decode cX2_readInto 57 = .ok (.putfield 20, 3) := by decide +kernel
theorem dX2_readInto_60 : decode cX2_readInto 60 = .ok (.aload_n 0, 1) := by decide +kernel
theorem dX2_readInto_61 : decode cX2_readInto 61 = .ok (.aload_n 2, 1) := by decide +kernel
theorem dX2_readInto_62 : decode cX2_readInto 62 = .ok (.iload 5, 2) := by decide +kernel
theorem dX2_readInto_64 : decode cX2_readInto 64 = .ok (.bipush 99, 2) := by decide +kernel
theorem dX2_readInto_66 : decode cX2_readInto 66 = .ok (.if_icmp .ne 7, 3) := by decide +kernel
theorem dX2_readInto_69 : decode cX2_readInto 69 = .ok (.iconst 1, 1) := by decide +kernel
theorem dX2_readInto_70 : decode cX2_readInto 70 = .ok (.goto 4, 3) := by decide +kernel
theorem dX2_readInto_73 : decode cX2_readInto 73 = .ok (.iconst 3, 1) := by decide +kernel
theorem dX2_readInto_74 : decode cX2_readInto 74 = .ok (.invokevirtual 37, 3) := by decide +kernel
theorem dX2_readInto_77 : decode cX2_readInto 77 = .ok (.ifCond .eq 13, 3) := by decide +kernel
theorem dX2_readInto_80 : decode cX2_readInto 80 = .ok (.aload_n 0, 1) := by decide +kernel
theorem dX2_readInto_81 : decode cX2_readInto 81 = .ok (.iload 5, 2) := by decide +kernel
theorem dX2_readInto_83 : decode cX2_readInto 83 = .ok (.aload_n 1, 1) := by decide +kernel
theorem dX2_readInto_84 : decode cX2_readInto 84 = .ok (.invokevirtual 41, 3) := by decide +kernel
theorem dX2_readInto_87 : decode cX2_readInto 87 = .ok (.ifCond .ne 6, 3) := by decide +kernel
theorem dX2_readInto_90 : decode cX2_readInto 90 = .ok (.iload 4, 2) := by decide +kernel
theorem dX2_readInto_92 : decode cX2_readInto 92 = .ok (.ireturn, 1) := by decide +kernel
theorem dX2_readInto_93 : decode cX2_readInto 93 = .ok (.iinc 3 1, 3) := by decide +kernel
theorem dX2_readInto_96 : decode cX2_readInto 96 = .ok (.goto (-80), 3) := by decide +kernel
theorem dX2_readInto_99 : decode cX2_readInto 99 = .ok (.bipush (-4), 2) := by decide +kernel
theorem dX2_readInto_101 : decode cX2_readInto 101 = .ok (.ireturn, 1) := by decide +kernel
theorem dX2_readNumbers_0 : decode cX2_readNumbers 0 = .ok (.iconst 0, 1) := by decide +kernel
theorem dX2_readNumbers_1 : decode cX2_readNumbers 1 = .ok (.istore_n 3, 1) := by decide +kernel
theorem dX2_readNumbers_2 : decode cX2_readNumbers 2 = .ok (.iload_n 3, 1) := by decide +kernel
theorem dX2_readNumbers_3 : decode cX2_readNumbers 3 = .ok (.iload_n 2, 1) := by decide +kernel
theorem dX2_readNumbers_4 : decode cX2_readNumbers 4 = .ok (.if_icmp .ge 81, 3) := by decide +kernel
theorem dX2_readNumbers_7 : decode cX2_readNumbers 7 = .ok (.iload_n 3, 1) := by decide +kernel
theorem dX2_readNumbers_8 : decode cX2_readNumbers 8 = .ok (.aload_n 0, 1) := by decide +kernel
theorem dX2_readNumbers_9 : decode cX2_readNumbers 9 = .ok (.getfield 9, 3) := by decide +kernel
theorem dX2_readNumbers_12 : decode cX2_readNumbers 12 = .ok (.arraylength, 1) := by decide +kernel
theorem dX2_readNumbers_13 : decode cX2_readNumbers 13 = .ok (.if_icmp .ge 72, 3) := by decide +kernel
theorem dX2_readNumbers_16 : decode cX2_readNumbers 16 = .ok (.aload_n 0, 1) := by decide +kernel
theorem dX2_readNumbers_17 : decode cX2_readNumbers 17 = .ok (.getfield 9, 3) := by decide +kernel
theorem dX2_readNumbers_20 : decode cX2_readNumbers 20 = .ok (.iload_n 3, 1) := by decide +kernel
theorem dX2_readNumbers_21 : decode cX2_readNumbers 21 = .ok (.aload_n 0, 1) := by decide +kernel
theorem dX2_readNumbers_22 : decode cX2_readNumbers 22 = .ok (.aload_n 1, 1) := by decide +kernel
theorem dX2_readNumbers_23 : decode cX2_readNumbers 23 = .ok (.invokevirtual 45, 3) := by decide +kernel
theorem dX2_readNumbers_26 : decode cX2_readNumbers 26 = .ok (.iastore, 1) := by decide +kernel
theorem dX2_readNumbers_27 : decode cX2_readNumbers 27 = .ok (.iload_n 3, 1) := by decide +kernel
theorem dX2_readNumbers_28 : decode cX2_readNumbers 28 = .ok (.iconst 1, 1) := by decide +kernel
theorem dX2_readNumbers_29 : decode cX2_readNumbers 29 = .ok (.iadd, 1) := by decide +kernel
theorem dX2_readNumbers_30 : decode cX2_readNumbers 30 = .ok (.iload_n 2, 1) := by decide +kernel
theorem dX2_readNumbers_31 : decode cX2_readNumbers 31 = .ok (.if_icmp .ge 8, 3) := by decide +kernel
theorem dX2_readNumbers_34 : decode cX2_readNumbers 34 = .ok (.bipush 44, 2) := by decide +kernel
theorem dX2_readNumbers_36 : decode cX2_readNumbers 36 = .ok (.goto 5, 3) := by decide +kernel
theorem dX2_readNumbers_39 : decode cX2_readNumbers 39 = .ok (.bipush 59, 2) := by decide +kernel
theorem dX2_readNumbers_41 : decode cX2_readNumbers 41 = .ok (.istore 4, 2) := by decide +kernel
theorem dX2_readNumbers_43 : decode cX2_readNumbers 43 = .ok (.aload_n 0, 1) := by decide +kernel
theorem dX2_readNumbers_44 : decode cX2_readNumbers 44 = .ok (.getfield 9, 3) := by decide +kernel
theorem dX2_readNumbers_47 : decode cX2_readNumbers 47 = .ok (.iload_n 3, 1) := by decide +kernel
theorem dX2_readNumbers_48 : decode cX2_readNumbers 48 = .ok (.iaload, 1) := by decide +kernel
theorem dX2_readNumbers_49 : decode cX2_readNumbers 49 = .ok (.bipush (-4), 2) := by decide +kernel
theorem dX2_readNumbers_51 : decode cX2_readNumbers 51 = .ok (.if_icmp .eq 16, 3) := by decide +kernel
theorem dX2_readNumbers_54 : decode cX2_readNumbers 54 = .ok (.aload_n 1, 1) := by decide +kernel
theorem dX2_readNumbers_55 : decode cX2_readNumbers 55 = .ok (.aload_n 0, 1) := by decide +kernel
theorem dX2_readNumbers_56 : decode cX2_readNumbers 56 = .ok (.getfield 20, 3) := by decide +kernel
theorem dX2_readNumbers_59 : decode cX2_readNumbers 59 = .ok (.invokevirtual 33, 3) := by decide +kernel
theorem dX2_readNumbers_62 : decode cX2_readNumbers 62 = .ok (.iload 4, 2) := by decide +kernel
theorem dX2_readNumbers_64 : decode cX2_readNumbers 64 = .ok (.if_icmp .eq 5, 3) := by decide +kernel
theorem dX2_readNumbers_67 : decode cX2_readNumbers 67 = .ok (.iconst 0, 1) := by decide +kernel
theorem dX2_readNumbers_68 : decode cX2_readNumbers 68 = .ok (.ireturn, 1) := by decide +kernel
theorem dX2_readNumbers_69 : decode cX2_readNumbers 69 = .ok (.aload_n 0, 1) := by decide +kernel
theorem dX2_readNumbers_70 : decode cX2_readNumbers 70 = .ok (.dup, 1) := by decide +kernel
theorem dX2_readNumbers_71 : decode cX2_readNumbers 71 = .ok (.getfield 20, 3) := by decide +kernel
theorem dX2_readNumbers_74 : decode cX2_readNumbers 74 = .ok (.iconst 1, 1) := by decide +kernel
theorem dX2_readNumbers_75 : decode cX2_readNumbers 75 = .ok (.iadd, 1) := by decide +kernel
theorem dX2_readNumbers_76 : decode cX2_readNumbers 76 = .ok (.putfield 20, 3) := by decide +kernel
theorem dX2_readNumbers_79 : decode cX2_readNumbers 79 = .ok (.iinc 3 1, 3) := by decide +kernel
theorem dX2_readNumbers_82 : decode cX2_readNumbers 82 = .ok (.goto (-80), 3) := by decide +kernel
theorem dX2_readNumbers_85 : decode cX2_readNumbers 85 = .ok (.iconst 1, 1) := by decide +kernel
theorem dX2_readNumbers_86 : decode cX2_readNumbers 86 = .ok (.ireturn, 1) := by decide +kernel
theorem dX2_readNumber_0 : decode cX2_readNumber 0 = .ok (.bipush (-4), 2) := by decide +kernel
theorem dX2_readNumber_2 : decode cX2_readNumber 2 = .ok (.istore_n 2, 1) := by decide +kernel
theorem dX2_readNumber_3 : decode cX2_readNumber 3 = .ok (.iconst 0, 1) := by decide +kernel
theorem dX2_readNumber_4 : decode cX2_readNumber 4 = .ok (.istore_n 3, 1) := by decide +kernel
theorem dX2_readNumber_5 : decode cX2_readNumber 5 = .ok (.iload_n 3, 1) := by decide +kernel
theorem dX2_readNumber_6 : decode cX2_readNumber 6 = .ok (.iconst 2, 1) := by decide +kernel
theorem dX2_readNumber_7 : decode cX2_readNumber 7 = .ok (.if_icmp .ge 66, 3) := by decide +kernel
theorem dX2_readNumber_10 : decode cX2_readNumber 10 = .ok (.aload_n 1, 1) := by decide +kernel
theorem dX2_readNumber_11 : decode cX2_readNumber 11 = .ok (.aload_n 0, 1) := by decide +kernel
theorem dX2_readNumber_12 : decode cX2_readNumber 12 = .ok (.getfield 20, 3) := by decide +kernel
theorem dX2_readNumber_15 : decode cX2_readNumber 15 = .ok (.invokevirtual 33, 3) := by decide +kernel
theorem dX2_readNumber_18 : decode cX2_readNumber 18 = .ok (.istore 4, 2) := by decide +kernel
theorem dX2_readNumber_20 : decode cX2_readNumber 20 = .ok (.iload 4, 2) := by decide +kernel
theorem dX2_readNumber_22 : decode cX2_readNumber 22 = .ok (.bipush 48, 2) := by decide +kernel
theorem dX2_readNumber_24 : decode cX2_readNumber 24 = .ok (.if_icmp .lt 10, 3) := by decide +kernel
theorem dX2_readNumber_27 : decode cX2_readNumber 27 = .ok (.iload 4, 2) := by decide +kernel
theorem dX2_readNumber_29 : decode cX2_readNumber 29 = .ok (.bipush 57, 2) := by decide +kernel
theorem dX2_readNumber_31 : decode cX2_readNumber 31 = .ok (.if_icmp .le 5, 3) := by decide +kernel
theorem dX2_readNumber_34 : decode cX2_readNumber 34 = .ok (.iload_n 2, 1) := by decide +kernel
theorem dX2_readNumber_35 : decode cX2_readNumber 35 = .ok (.ireturn, 1) := by decide +kernel
theorem dX2_readNumber_36 : decode cX2_readNumber 36 = .ok (.iload_n 2, 1) := by decide +kernel
theorem dX2_readNumber_37 : decode cX2_readNumber 37 = .ok (.bipush (-4), 2) := by decide +kernel
theorem dX2_readNumber_39 : decode cX2_readNumber 39 = .ok (.if_icmp .ne 7, 3) := by decide +kernel
theorem dX2_readNumber_42 : decode cX2_readNumber 42 = .ok (.iconst 0, 1) := by decide +kernel
theorem dX2_readNumber_43 : decode cX2_readNumber 43 = .ok (.goto 7, 3) := by decide +kernel
theorem dX2_readNumber_46 : decode cX2_readNumber 46 = .ok (.bipush 10, 2) := by decide +kernel
theorem dX2_readNumber_48 : decode cX2_readNumber 48 = .ok (.iload_n 2, 1) := by decide +kernel
theorem dX2_readNumber_49 : decode cX2_readNumber 49 = .ok (.imul, 1) := by decide +kernel
theorem dX2_readNumber_50 : decode cX2_readNumber 50 = .ok (.iload 4, 2) := by decide +kernel
theorem dX2_readNumber_52 : decode cX2_readNumber 52 = .ok (.iadd, 1) := by decide +kernel
theorem dX2_readNumber_53 : decode cX2_readNumber 53 = .ok (.bipush 48, 2) := by decide +kernel
theorem dX2_readNumber_55 : decode cX2_readNumber 55 = .ok (.isub, 1) := by decide +kernel
theorem dX2_readNumber_56 : decode cX2_readNumber 56 = .ok (.istore_n 2, 1) := by decide +kernel
theorem dX2_readNumber_57 : decode cX2_readNumber 57 = .ok (.aload_n 0, 1) := by decide +kernel
theorem dX2_readNumber_58 : decode cX2_readNumber 58 = .ok (.dup, 1) := by decide +kernel
theorem dX2_readNumber_59 : decode cX2_readNumber 59 = .ok (.getfield 20, 3) := by decide +kernel
theorem dX2_readNumber_62 : decode cX2_readNumber 62 = .ok (.iconst 1, 1) := by decide +kernel
theorem dX2_readNumber_63 : decode cX2_readNumber 63 = .ok (.iadd, 1) := by decide +kernel
theorem dX2_readNumber_64 : decode cX2_readNumber 64 = .ok (.putfield 20, 3) := by decide +kernel
theorem dX2_readNumber_67 : decode cX2_readNumber 67 = .ok (.iinc 3 1, 3) := by decide +kernel
theorem dX2_readNumber_70 : decode cX2_readNumber 70 = .ok (.goto (-65), 3) := by decide +kernel
theorem dX2_readNumber_73 : decode cX2_readNumber 73 = .ok (.iload_n 2, 1) := by decide +kernel
theorem dX2_readNumber_74 : decode cX2_readNumber 74 = .ok (.ireturn, 1) := by decide +kernel
theorem dX2_accept_0 : decode cX2_accept 0 = .ok (.iload_n 1, 1) := by decide +kernel
theorem dX2_accept_1 : decode cX2_accept 1 = .ok (.bipush 99, 2) := by decide +kernel
theorem dX2_accept_3 : decode cX2_accept 3 = .ok (.if_icmp .ne 24, 3) := by decide +kernel
theorem dX2_accept_6 : decode cX2_accept 6 = .ok (.aload_n 0, 1) := by decide +kernel
theorem dX2_accept_7 : decode cX2_accept 7 = .ok (.getfield 24, 3) := by decide +kernel
theorem dX2_accept_10 : decode cX2_accept 10 = .ok (.ifCond .eq 15, 3) := by decide +kernel
theorem dX2_accept_13 : decode cX2_accept 13 = .ok (.aload_n 0, 1) := by decide +kernel
theorem dX2_accept_14 : decode cX2_accept 14 = .ok (.aload_n 2, 1) := by decide +kernel
theorem dX2_accept_15 : decode cX2_accept 15 = .ok (.invokevirtual 49, 3) := by decide +kernel
theorem dX2_accept_18 : decode cX2_accept 18 = .ok (.ifCond .eq 7, 3) := by decide +kernel
theorem dX2_accept_21 : decode cX2_accept 21 = .ok (.iconst 1, 1) := by decide +kernel
theorem dX2_accept_22 : decode cX2_accept 22 = .ok (.goto 4, 3) := by decide +kernel
theorem dX2_accept_25 : decode cX2_accept 25 = .ok (.iconst 0, 1) := by decide +kernel
theorem dX2_accept_26 : decode cX2_accept 26 = .ok (.ireturn, 1) := by decide +kernel
theorem dX2_accept_27 : decode cX2_accept 27 = .ok (.aload_n 0, 1) := by decide +kernel
theorem dX2_accept_28 : decode cX2_accept 28 = .ok (.iconst 0, 1) := by decide +kernel
theorem dX2_accept_29 : decode cX2_accept 29 = .ok (.putfield 24, 3) := by decide +kernel
theorem dX2_accept_32 : decode cX2_accept 32 = .ok (.iload_n 1, 1) := by decide +kernel
theorem dX2_accept_33 : decode cX2_accept 33 = .ok (.lookupswitch 67 #[(103, 49), (114, 61), (115, 43), (119, 55)], 43) := by decide +kernel
theorem dX2_accept_76 : decode cX2_accept 76 = .ok (.aload_n 0, 1) := by decide +kernel
theorem dX2_accept_77 : decode cX2_accept 77 = .ok (.aload_n 2, 1) := by decide +kernel
theorem dX2_accept_78 : decode cX2_accept 78 = .ok (.invokevirtual 53, 3) := by decide +kernel
theorem dX2_accept_81 : decode cX2_accept 81 = .ok (.ireturn, 1) := by decide +kernel
theorem dX2_accept_82 : decode cX2_accept 82 = .ok (.aload_n 0, 1) := by decide +kernel
theorem dX2_accept_83 : decode cX2_accept 83 = .ok (.aload_n 2, 1) := by decide +kernel
theorem dX2_accept_84 : decode cX2_accept 84 = .ok (.invokevirtual 56, 3) := by decide +kernel
theorem dX2_accept_87 : decode cX2_accept 87 = .ok (.ireturn, 1) := by decide +kernel
theorem dX2_accept_88 : decode cX2_accept 88 = .ok (.aload_n 0, 1) := by decide +kernel
theorem dX2_accept_89 : decode cX2_accept 89 = .ok (.aload_n 2, 1) := by decide +kernel
theorem dX2_accept_90 : decode cX2_accept 90 = .ok (.invokevirtual 59, 3) := by decide +kernel
theorem dX2_accept_93 : decode cX2_accept 93 = .ok (.ireturn, 1) := by decide +kernel
theorem dX2_accept_94 : decode cX2_accept 94 = .ok (.aload_n 0, 1) := by decide +kernel
theorem dX2_accept_95 : decode cX2_accept 95 = .ok (.aload_n 2, 1) := by decide +kernel
theorem dX2_accept_96 : decode cX2_accept 96 = .ok (.invokevirtual 62, 3) := by decide +kernel
theorem dX2_accept_99 : decode cX2_accept 99 = .ok (.ireturn, 1) := by decide +kernel
theorem dX2_accept_100 : decode cX2_accept 100 = .ok (.iconst 0, 1) := by decide +kernel
theorem dX2_accept_101 : decode cX2_accept 101 = .ok (.ireturn, 1) := by decide +kernel
theorem dX2_acceptCorners_0 : decode cX2_acceptCorners 0 = .ok (.aload_n 0, 1) := by decide +kernel
theorem dX2_acceptCorners_1 : decode cX2_acceptCorners 1 = .ok (.getfield 9, 3) := by decide +kernel
theorem dX2_acceptCorners_4 : decode cX2_acceptCorners 4 = .ok (.iconst 0, 1) := by decide +kernel
theorem dX2_acceptCorners_5 : decode cX2_acceptCorners 5 = .ok (.iaload, 1) := by decide +kernel
theorem dX2_acceptCorners_6 : decode cX2_acceptCorners 6 = .ok (.iconst 1, 1) := by decide +kernel
theorem dX2_acceptCorners_7 : decode cX2_acceptCorners 7 = .ok (.if_icmp .lt 14, 3) := by decide +kernel
theorem dX2_acceptCorners_10 : decode cX2_acceptCorners 10 = .ok (.aload_n 0, 1) := by decide +kernel
theorem dX2_acceptCorners_11 : decode cX2_acceptCorners 11 = .ok (.getfield 9, 3) := by decide +kernel
theorem dX2_acceptCorners_14 : decode cX2_acceptCorners 14 = .ok (.iconst 0, 1) := by decide +kernel
theorem dX2_acceptCorners_15 : decode cX2_acceptCorners 15 = .ok (.iaload, 1) := by decide +kernel
theorem dX2_acceptCorners_16 : decode cX2_acceptCorners 16 = .ok (.bipush 8, 2) := by decide +kernel
theorem dX2_acceptCorners_18 : decode cX2_acceptCorners 18 = .ok (.if_icmp .le 5, 3) := by decide +kernel
theorem dX2_acceptCorners_21 : decode cX2_acceptCorners 21 = .ok (.iconst 0, 1) := by decide +kernel
theorem dX2_acceptCorners_22 : decode cX2_acceptCorners 22 = .ok (.ireturn, 1) := by decide +kernel
theorem dX2_acceptCorners_23 : decode cX2_acceptCorners 23 = .ok (.aload_n 1, 1) := by decide +kernel
theorem dX2_acceptCorners_24 : decode cX2_acceptCorners 24 = .ok (.getfield 65, 3) := by decide +kernel
theorem dX2_acceptCorners_27 : decode cX2_acceptCorners 27 = .ok (.aload_n 0, 1) := by decide +kernel
theorem dX2_acceptCorners_28 : decode cX2_acceptCorners 28 = .ok (.getfield 9, 3) := by decide +kernel
theorem dX2_acceptCorners_31 : decode cX2_acceptCorners 31 = .ok (.iconst 0, 1) := by decide +kernel
theorem dX2_acceptCorners_32 : decode cX2_acceptCorners 32 = .ok (.iaload, 1) := by decide +kernel
theorem dX2_acceptCorners_33 : decode cX2_acceptCorners 33 = .ok (.putfield 69, 3) := by decide +kernel
theorem dX2_acceptCorners_36 : decode cX2_acceptCorners 36 = .ok (.iconst 1, 1) := by decide +kernel
theorem dX2_acceptCorners_37 : decode cX2_acceptCorners 37 = .ok (.ireturn, 1) := by decide +kernel
theorem dX2_acceptStreet_0 : decode cX2_acceptStreet 0 = .ok (.aload_n 1, 1) := by decide +kernel
theorem dX2_acceptStreet_1 : decode cX2_acceptStreet 1 = .ok (.getfield 65, 3) := by decide +kernel
theorem dX2_acceptStreet_4 : decode cX2_acceptStreet 4 = .ok (.astore_n 2, 1) := by decide +kernel
theorem dX2_acceptStreet_5 : decode cX2_acceptStreet 5 = .ok (.aload_n 0, 1) := by decide +kernel
theorem dX2_acceptStreet_6 : decode cX2_acceptStreet 6 = .ok (.getfield 9, 3) := by decide +kernel
theorem dX2_acceptStreet_9 : decode cX2_acceptStreet 9 = .ok (.iconst 0, 1) := by decide +kernel
theorem dX2_acceptStreet_10 : decode cX2_acceptStreet 10 = .ok (.iaload, 1) := by decide +kernel
theorem dX2_acceptStreet_11 : decode cX2_acceptStreet 11 = .ok (.istore_n 3, 1) := by decide +kernel
theorem dX2_acceptStreet_12 : decode cX2_acceptStreet 12 = .ok (.aload_n 0, 1) := by decide +kernel
theorem dX2_acceptStreet_13 : decode cX2_acceptStreet 13 = .ok (.getfield 9, 3) := by decide +kernel
theorem dX2_acceptStreet_16 : decode cX2_acceptStreet 16 = .ok (.iconst 1, 1) := by decide +kernel
theorem dX2_acceptStreet_17 : decode cX2_acceptStreet 17 = .ok (.iaload, 1) := by decide +kernel
theorem dX2_acceptStreet_18 : decode cX2_acceptStreet 18 = .ok (.istore 4, 2) := by decide +kernel
theorem dX2_acceptStreet_20 : decode cX2_acceptStreet 20 = .ok (.aload_n 0, 1) := by decide +kernel
theorem dX2_acceptStreet_21 : decode cX2_acceptStreet 21 = .ok (.getfield 9, 3) := by decide +kernel
theorem dX2_acceptStreet_24 : decode cX2_acceptStreet 24 = .ok (.iconst 2, 1) := by decide +kernel
theorem dX2_acceptStreet_25 : decode cX2_acceptStreet 25 = .ok (.iaload, 1) := by decide +kernel
theorem dX2_acceptStreet_26 : decode cX2_acceptStreet 26 = .ok (.istore 5, 2) := by decide +kernel
theorem dX2_acceptStreet_28 : decode cX2_acceptStreet 28 = .ok (.aload_n 2, 1) := by decide +kernel
theorem dX2_acceptStreet_29 : decode cX2_acceptStreet 29 = .ok (.getfield 74, 3) := by decide +kernel
theorem dX2_acceptStreet_32 : decode cX2_acceptStreet 32 = .ok (.bipush 12, 2) := by decide +kernel
theorem dX2_acceptStreet_34 : decode cX2_acceptStreet 34 = .ok (.if_icmp .ge 26, 3) := by decide +kernel
theorem dX2_acceptStreet_37 : decode cX2_acceptStreet 37 = .ok (.iload_n 3, 1) := by decide +kernel
theorem dX2_acceptStreet_38 : decode cX2_acceptStreet 38 = .ok (.aload_n 2, 1) := by decide +kernel
theorem dX2_acceptStreet_39 : decode cX2_acceptStreet 39 = .ok (.getfield 69, 3) := by decide +kernel
theorem dX2_acceptStreet_42 : decode cX2_acceptStreet 42 = .ok (.invokestatic 77, 3) := by decide +kernel
theorem dX2_acceptStreet_45 : decode cX2_acceptStreet 45 = .ok (.ifCond .eq 15, 3) := by decide +kernel
theorem dX2_acceptStreet_48 : decode cX2_acceptStreet 48 = .ok (.iload 4, 2) := by decide +kernel
theorem dX2_acceptStreet_50 : decode cX2_acceptStreet 50 = .ok (.aload_n 2, 1) := by decide +kernel
theorem dX2_acceptStreet_51 : decode cX2_acceptStreet 51 = .ok (.getfield 69, 3) := by decide +kernel
theorem dX2_acceptStreet_54 : decode cX2_acceptStreet 54 = .ok (.invokestatic 77, 3) := by decide +kernel
theorem dX2_acceptStreet_57 : decode cX2_acceptStreet 57 = .ok (.ifCond .ne 5, 3) := by decide +kernel
theorem dX2_acceptStreet_60 : decode cX2_acceptStreet 60 = .ok (.iconst 0, 1) := by decide +kernel
theorem dX2_acceptStreet_61 : decode cX2_acceptStreet 61 = .ok (.ireturn, 1) := by decide +kernel
theorem dX2_acceptStreet_62 : decode cX2_acceptStreet 62 = .ok (.iload_n 3, 1) := by decide +kernel
theorem dX2_acceptStreet_63 : decode cX2_acceptStreet 63 = .ok (.iload 4, 2) := by decide +kernel
theorem dX2_acceptStreet_65 : decode cX2_acceptStreet 65 = .ok (.if_icmp .eq 28, 3) := by decide +kernel
theorem dX2_acceptStreet_68 : decode cX2_acceptStreet 68 = .ok (.aload_n 2, 1) := by decide +kernel
theorem dX2_acceptStreet_69 : decode cX2_acceptStreet 69 = .ok (.getfield 81, 3) := by decide +kernel
theorem dX2_acceptStreet_72 : decode cX2_acceptStreet 72 = .ok (.iload_n 3, 1) := by decide +kernel
theorem dX2_acceptStreet_73 : decode cX2_acceptStreet 73 = .ok (.aaload, 1) := by decide +kernel
theorem dX2_acceptStreet_74 : decode cX2_acceptStreet 74 = .ok (.iload 4, 2) := by decide +kernel
theorem dX2_acceptStreet_76 : decode cX2_acceptStreet 76 = .ok (.iaload, 1) := by decide +kernel
theorem dX2_acceptStreet_77 : decode cX2_acceptStreet 77 = .ok (.ifCond .gt 16, 3) := by decide +kernel
theorem dX2_acceptStreet_80 : decode cX2_acceptStreet 80 = .ok (.iload 5, 2) := by decide +kernel
theorem dX2_acceptStreet_82 : decode cX2_acceptStreet 82 = .ok (.iconst 1, 1) := by decide +kernel
theorem dX2_acceptStreet_83 : decode cX2_acceptStreet 83 = .ok (.if_icmp .lt 10, 3) := by decide +kernel
theorem dX2_acceptStreet_86 : decode cX2_acceptStreet 86 = .ok (.iload 5, 2) := by decide +kernel
theorem dX2_acceptStreet_88 : decode cX2_acceptStreet 88 = .ok (.bipush 20, 2) := by decide +kernel
theorem dX2_acceptStreet_90 : decode cX2_acceptStreet 90 = .ok (.if_icmp .le 5, 3) := by decide +kernel
theorem dX2_acceptStreet_93 : decode cX2_acceptStreet 93 = .ok (.iconst 0, 1) := by decide +kernel
theorem dX2_acceptStreet_94 : decode cX2_acceptStreet 94 = .ok (.ireturn, 1) := by decide +kernel
theorem dX2_acceptStreet_95 : decode cX2_acceptStreet 95 = .ok (.aload_n 2, 1) := by decide +kernel
theorem dX2_acceptStreet_96 : decode cX2_acceptStreet 96 = .ok (.iload_n 3, 1) := by decide +kernel
theorem dX2_acceptStreet_97 : decode cX2_acceptStreet 97 = .ok (.iload 4, 2) := by decide +kernel
theorem dX2_acceptStreet_99 : decode cX2_acceptStreet 99 = .ok (.iload 5, 2) := by decide +kernel
theorem dX2_acceptStreet_101 : decode cX2_acceptStreet 101 = .ok (.invokevirtual 85, 3) := by decide +kernel
theorem dX2_acceptStreet_104 : decode cX2_acceptStreet 104 = .ok (.iconst 1, 1) := by decide +kernel
theorem dX2_acceptStreet_105 : decode cX2_acceptStreet 105 = .ok (.ireturn, 1) := by decide +kernel
theorem dX2_acceptSign_0 : decode cX2_acceptSign 0 = .ok (.aload_n 1, 1) := by decide +kernel
theorem dX2_acceptSign_1 : decode cX2_acceptSign 1 = .ok (.getfield 65, 3) := by decide +kernel
theorem dX2_acceptSign_4 : decode cX2_acceptSign 4 = .ok (.getfield 69, 3) := by decide +kernel
theorem dX2_acceptSign_7 : decode cX2_acceptSign 7 = .ok (.istore_n 2, 1) := by decide +kernel
theorem dX2_acceptSign_8 : decode cX2_acceptSign 8 = .ok (.aload_n 1, 1) := by decide +kernel
theorem dX2_acceptSign_9 : decode cX2_acceptSign 9 = .ok (.getfield 89, 3) := by decide +kernel
theorem dX2_acceptSign_12 : decode cX2_acceptSign 12 = .ok (.getfield 93, 3) := by decide +kernel
theorem dX2_acceptSign_15 : decode cX2_acceptSign 15 = .ok (.bipush 8, 2) := by decide +kernel
theorem dX2_acceptSign_17 : decode cX2_acceptSign 17 = .ok (.if_icmp .ge 42, 3) := by decide +kernel
theorem dX2_acceptSign_20 : decode cX2_acceptSign 20 = .ok (.aload_n 0, 1) := by decide +kernel
theorem dX2_acceptSign_21 : decode cX2_acceptSign 21 = .ok (.getfield 9, 3) := by decide +kernel
theorem dX2_acceptSign_24 : decode cX2_acceptSign 24 = .ok (.iconst 0, 1) := by decide +kernel
theorem dX2_acceptSign_25 : decode cX2_acceptSign 25 = .ok (.iaload, 1) := by decide +kernel
theorem dX2_acceptSign_26 : decode cX2_acceptSign 26 = .ok (.iload_n 2, 1) := by decide +kernel
theorem dX2_acceptSign_27 : decode cX2_acceptSign 27 = .ok (.invokestatic 77, 3) := by decide +kernel
theorem dX2_acceptSign_30 : decode cX2_acceptSign 30 = .ok (.ifCond .eq 29, 3) := by decide +kernel
theorem dX2_acceptSign_33 : decode cX2_acceptSign 33 = .ok (.aload_n 0, 1) := by decide +kernel
theorem dX2_acceptSign_34 : decode cX2_acceptSign 34 = .ok (.getfield 9, 3) := by decide +kernel
theorem dX2_acceptSign_37 : decode cX2_acceptSign 37 = .ok (.iconst 1, 1) := by decide +kernel
theorem dX2_acceptSign_38 : decode cX2_acceptSign 38 = .ok (.iaload, 1) := by decide +kernel
theorem dX2_acceptSign_39 : decode cX2_acceptSign 39 = .ok (.iload_n 2, 1) := by decide +kernel
theorem dX2_acceptSign_40 : decode cX2_acceptSign 40 = .ok (.invokestatic 77, 3) := by decide +kernel
theorem dX2_acceptSign_43 : decode cX2_acceptSign 43 = .ok (.ifCond .eq 16, 3) := by decide +kernel
theorem dX2_acceptSign_46 : decode cX2_acceptSign 46 = .ok (.aload_n 0, 1) := by decide +kernel
theorem dX2_acceptSign_47 : decode cX2_acceptSign 47 = .ok (.getfield 9, 3) := by decide +kernel
theorem dX2_acceptSign_50 : decode cX2_acceptSign 50 = .ok (.iconst 2, 1) := by decide +kernel
theorem dX2_acceptSign_51 : decode cX2_acceptSign 51 = .ok (.iaload, 1) := by decide +kernel
theorem dX2_acceptSign_52 : decode cX2_acceptSign 52 = .ok (.iload_n 2, 1) := by decide +kernel
theorem dX2_acceptSign_53 : decode cX2_acceptSign 53 = .ok (.invokestatic 77, 3) := by decide +kernel
theorem dX2_acceptSign_56 : decode cX2_acceptSign 56 = .ok (.ifCond .ne 5, 3) := by decide +kernel
theorem dX2_acceptSign_59 : decode cX2_acceptSign 59 = .ok (.iconst 0, 1) := by decide +kernel
theorem dX2_acceptSign_60 : decode cX2_acceptSign 60 = .ok (.ireturn, 1) := by decide +kernel
theorem dX2_acceptSign_61 : decode cX2_acceptSign 61 = .ok (.aload_n 1, 1) := by decide +kernel
theorem dX2_acceptSign_62 : decode cX2_acceptSign 62 = .ok (.getfield 89, 3) := by decide +kernel
theorem dX2_acceptSign_65 : decode cX2_acceptSign 65 = .ok (.aload_n 1, 1) := by decide +kernel
theorem dX2_acceptSign_66 : decode cX2_acceptSign 66 = .ok (.getfield 89, 3) := by decide +kernel
theorem dX2_acceptSign_69 : decode cX2_acceptSign 69 = .ok (.getfield 93, 3) := by decide +kernel
theorem dX2_acceptSign_72 : decode cX2_acceptSign 72 = .ok (.aload_n 0, 1) := by decide +kernel
theorem dX2_acceptSign_73 : decode cX2_acceptSign 73 = .ok (.getfield 9, 3) := by decide +kernel
theorem dX2_acceptSign_76 : decode cX2_acceptSign 76 = .ok (.iconst 0, 1) := by decide +kernel
theorem dX2_acceptSign_77 : decode cX2_acceptSign 77 = .ok (.iaload, 1) := by decide +kernel
theorem dX2_acceptSign_78 : decode cX2_acceptSign 78 = .ok (.aload_n 0, 1) := by decide +kernel
theorem dX2_acceptSign_79 : decode cX2_acceptSign 79 = .ok (.getfield 9, 3) := by decide +kernel
theorem dX2_acceptSign_82 : decode cX2_acceptSign 82 = .ok (.iconst 1, 1) := by decide +kernel
theorem dX2_acceptSign_83 : decode cX2_acceptSign 83 = .ok (.iaload, 1) := by decide +kernel
theorem dX2_acceptSign_84 : decode cX2_acceptSign 84 = .ok (.aload_n 0, 1) := by decide +kernel
theorem dX2_acceptSign_85 : decode cX2_acceptSign 85 = .ok (.getfield 9, 3) := by decide +kernel
theorem dX2_acceptSign_88 : decode cX2_acceptSign 88 = .ok (.iconst 2, 1) := by decide +kernel
theorem dX2_acceptSign_89 : decode cX2_acceptSign 89 = .ok (.iaload, 1) := by decide +kernel
theorem dX2_acceptSign_90 : decode cX2_acceptSign 90 = .ok (.invokevirtual 96, 3) := by decide +kernel
theorem dX2_acceptSign_93 : decode cX2_acceptSign 93 = .ok (.iconst 1, 1) := by decide +kernel
theorem dX2_acceptSign_94 : decode cX2_acceptSign 94 = .ok (.ireturn, 1) := by decide +kernel
theorem dX2_acceptWalker_0 : decode cX2_acceptWalker 0 = .ok (.aload_n 1, 1) := by decide +kernel
theorem dX2_acceptWalker_1 : decode cX2_acceptWalker 1 = .ok (.getfield 65, 3) := by decide +kernel
theorem dX2_acceptWalker_4 : decode cX2_acceptWalker 4 = .ok (.getfield 69, 3) := by decide +kernel
theorem dX2_acceptWalker_7 : decode cX2_acceptWalker 7 = .ok (.istore_n 2, 1) := by decide +kernel
theorem dX2_acceptWalker_8 : decode cX2_acceptWalker 8 = .ok (.aload_n 1, 1) := by decide +kernel
theorem dX2_acceptWalker_9 : decode cX2_acceptWalker 9 = .ok (.getfield 100, 3) := by decide +kernel
theorem dX2_acceptWalker_12 : decode cX2_acceptWalker 12 = .ok (.getfield 104, 3) := by decide +kernel
theorem dX2_acceptWalker_15 : decode cX2_acceptWalker 15 = .ok (.iconst 4, 1) := by decide +kernel
theorem dX2_acceptWalker_16 : decode cX2_acceptWalker 16 = .ok (.if_icmp .ge 42, 3) := by decide +kernel
theorem dX2_acceptWalker_19 : decode cX2_acceptWalker 19 = .ok (.aload_n 0, 1) := by decide +kernel
theorem dX2_acceptWalker_20 : decode cX2_acceptWalker 20 = .ok (.getfield 9, 3) := by decide +kernel
theorem dX2_acceptWalker_23 : decode cX2_acceptWalker 23 = .ok (.iconst 0, 1) := by decide +kernel
theorem dX2_acceptWalker_24 : decode cX2_acceptWalker 24 = .ok (.iaload, 1) := by decide +kernel
theorem dX2_acceptWalker_25 : decode cX2_acceptWalker 25 = .ok (.iconst 4, 1) := by decide +kernel
theorem dX2_acceptWalker_26 : decode cX2_acceptWalker 26 = .ok (.invokestatic 77, 3) := by decide +kernel
theorem dX2_acceptWalker_29 : decode cX2_acceptWalker 29 = .ok (.ifCond .eq 29, 3) := by decide +kernel
theorem dX2_acceptWalker_32 : decode cX2_acceptWalker 32 = .ok (.aload_n 0, 1) := by decide +kernel
theorem dX2_acceptWalker_33 : decode cX2_acceptWalker 33 = .ok (.getfield 9, 3) := by decide +kernel
theorem dX2_acceptWalker_36 : decode cX2_acceptWalker 36 = .ok (.iconst 1, 1) := by decide +kernel
theorem dX2_acceptWalker_37 : decode cX2_acceptWalker 37 = .ok (.iaload, 1) := by decide +kernel
theorem dX2_acceptWalker_38 : decode cX2_acceptWalker 38 = .ok (.iload_n 2, 1) := by decide +kernel
theorem dX2_acceptWalker_39 : decode cX2_acceptWalker 39 = .ok (.invokestatic 77, 3) := by decide +kernel
theorem dX2_acceptWalker_42 : decode cX2_acceptWalker 42 = .ok (.ifCond .eq 16, 3) := by decide +kernel
theorem dX2_acceptWalker_45 : decode cX2_acceptWalker 45 = .ok (.aload_n 0, 1) := by decide +kernel
theorem dX2_acceptWalker_46 : decode cX2_acceptWalker 46 = .ok (.getfield 9, 3) := by decide +kernel
theorem dX2_acceptWalker_49 : decode cX2_acceptWalker 49 = .ok (.iconst 2, 1) := by decide +kernel
theorem dX2_acceptWalker_50 : decode cX2_acceptWalker 50 = .ok (.iaload, 1) := by decide +kernel
theorem dX2_acceptWalker_51 : decode cX2_acceptWalker 51 = .ok (.iload_n 2, 1) := by decide +kernel
theorem dX2_acceptWalker_52 : decode cX2_acceptWalker 52 = .ok (.invokestatic 77, 3) := by decide +kernel
theorem dX2_acceptWalker_55 : decode cX2_acceptWalker 55 = .ok (.ifCond .ne 5, 3) := by decide +kernel
theorem dX2_acceptWalker_58 : decode cX2_acceptWalker 58 = .ok (.iconst 0, 1) := by decide +kernel
theorem dX2_acceptWalker_59 : decode cX2_acceptWalker 59 = .ok (.ireturn, 1) := by decide +kernel
theorem dX2_acceptWalker_60 : decode cX2_acceptWalker 60 = .ok (.aload_n 1, 1) := by decide +kernel
theorem dX2_acceptWalker_61 : decode cX2_acceptWalker 61 = .ok (.getfield 100, 3) := by decide +kernel
theorem dX2_acceptWalker_64 : decode cX2_acceptWalker 64 = .ok (.aload_n 0, 1) := by decide +kernel
theorem dX2_acceptWalker_65 : decode cX2_acceptWalker 65 = .ok (.getfield 9, 3) := by decide +kernel
theorem dX2_acceptWalker_68 : decode cX2_acceptWalker 68 = .ok (.iconst 0, 1) := by decide +kernel
theorem dX2_acceptWalker_69 : decode cX2_acceptWalker 69 = .ok (.iaload, 1) := by decide +kernel
theorem dX2_acceptWalker_70 : decode cX2_acceptWalker 70 = .ok (.aload_n 0, 1) := by decide +kernel
theorem dX2_acceptWalker_71 : decode cX2_acceptWalker 71 = .ok (.getfield 9, 3) := by decide +kernel
theorem dX2_acceptWalker_74 : decode cX2_acceptWalker 74 = .ok (.iconst 1, 1) := by decide +kernel
theorem dX2_acceptWalker_75 : decode cX2_acceptWalker 75 = .ok (.iaload, 1) := by decide +kernel
theorem dX2_acceptWalker_76 : decode cX2_acceptWalker 76 = .ok (.aload_n 0, 1) := by decide +kernel
theorem dX2_acceptWalker_77 : decode cX2_acceptWalker 77 = .ok (.getfield 9, 3) := by decide +kernel
theorem dX2_acceptWalker_80 : decode cX2_acceptWalker 80 = .ok (.iconst 2, 1) := by decide +kernel
theorem dX2_acceptWalker_81 : decode cX2_acceptWalker 81 = .ok (.iaload, 1) := by decide +kernel
theorem dX2_acceptWalker_82 : decode cX2_acceptWalker 82 = .ok (.invokevirtual 107, 3) := by decide +kernel
theorem dX2_acceptWalker_85 : decode cX2_acceptWalker 85 = .ok (.iconst 1, 1) := by decide +kernel
theorem dX2_acceptWalker_86 : decode cX2_acceptWalker 86 = .ok (.ireturn, 1) := by decide +kernel
theorem dX2_acceptRates_0 : decode cX2_acceptRates 0 = .ok (.aload_n 0, 1) := by decide +kernel
theorem dX2_acceptRates_1 : decode cX2_acceptRates 1 = .ok (.getfield 9, 3) := by decide +kernel
theorem dX2_acceptRates_4 : decode cX2_acceptRates 4 = .ok (.iconst 0, 1) := by decide +kernel
theorem dX2_acceptRates_5 : decode cX2_acceptRates 5 = .ok (.iaload, 1) := by decide +kernel
theorem dX2_acceptRates_6 : decode cX2_acceptRates 6 = .ok (.bipush 10, 2) := by decide +kernel
theorem dX2_acceptRates_8 : decode cX2_acceptRates 8 = .ok (.invokestatic 77, 3) := by decide +kernel
theorem dX2_acceptRates_11 : decode cX2_acceptRates 11 = .ok (.ifCond .eq 31, 3) := by decide +kernel
theorem dX2_acceptRates_14 : decode cX2_acceptRates 14 = .ok (.aload_n 0, 1) := by decide +kernel
theorem dX2_acceptRates_15 : decode cX2_acceptRates 15 = .ok (.getfield 9, 3) := by decide +kernel
theorem dX2_acceptRates_18 : decode cX2_acceptRates 18 = .ok (.iconst 1, 1) := by decide +kernel
theorem dX2_acceptRates_19 : decode cX2_acceptRates 19 = .ok (.iaload, 1) := by decide +kernel
theorem dX2_acceptRates_20 : decode cX2_acceptRates 20 = .ok (.bipush 10, 2) := by decide +kernel
theorem dX2_acceptRates_22 : decode cX2_acceptRates 22 = .ok (.invokestatic 77, 3) := by decide +kernel
theorem dX2_acceptRates_25 : decode cX2_acceptRates 25 = .ok (.ifCond .eq 17, 3) := by decide +kernel
theorem dX2_acceptRates_28 : decode cX2_acceptRates 28 = .ok (.aload_n 0, 1) := by decide +kernel
theorem dX2_acceptRates_29 : decode cX2_acceptRates 29 = .ok (.getfield 9, 3) := by decide +kernel
theorem dX2_acceptRates_32 : decode cX2_acceptRates 32 = .ok (.iconst 2, 1) := by decide +kernel
theorem dX2_acceptRates_33 : decode cX2_acceptRates 33 = .ok (.iaload, 1) := by decide +kernel
theorem dX2_acceptRates_34 : decode cX2_acceptRates 34 = .ok (.bipush 10, 2) := by decide +kernel
theorem dX2_acceptRates_36 : decode cX2_acceptRates 36 = .ok (.invokestatic 77, 3) := by decide +kernel
theorem dX2_acceptRates_39 : decode cX2_acceptRates 39 = .ok (.ifCond .ne 5, 3) := by decide +kernel
theorem dX2_acceptRates_42 : decode cX2_acceptRates 42 = .ok (.iconst 0, 1) := by decide +kernel
theorem dX2_acceptRates_43 : decode cX2_acceptRates 43 = .ok (.ireturn, 1) := by decide +kernel
theorem dX2_acceptRates_44 : decode cX2_acceptRates 44 = .ok (.aload_n 1, 1) := by decide +kernel
theorem dX2_acceptRates_45 : decode cX2_acceptRates 45 = .ok (.aload_n 0, 1) := by decide +kernel
theorem dX2_acceptRates_46 : decode cX2_acceptRates 46 = .ok (.getfield 9, 3) := by decide +kernel
theorem dX2_acceptRates_49 : decode cX2_acceptRates 49 = .ok (.iconst 0, 1) := by decide +kernel
theorem dX2_acceptRates_50 : decode cX2_acceptRates 50 = .ok (.iaload, 1) := by decide +kernel
theorem dX2_acceptRates_51 : decode cX2_acceptRates 51 = .ok (.putfield 108, 3) := by decide +kernel
theorem dX2_acceptRates_54 : decode cX2_acceptRates 54 = .ok (.aload_n 1, 1) := by decide +kernel
theorem dX2_acceptRates_55 : decode cX2_acceptRates 55 = .ok (.aload_n 0, 1) := by decide +kernel
theorem dX2_acceptRates_56 : decode cX2_acceptRates 56 = .ok (.getfield 9, 3) := by decide +kernel
theorem dX2_acceptRates_59 : decode cX2_acceptRates 59 = .ok (.iconst 1, 1) := by decide +kernel
theorem dX2_acceptRates_60 : decode cX2_acceptRates 60 = .ok (.iaload, 1) := by decide +kernel
theorem dX2_acceptRates_61 : decode cX2_acceptRates 61 = .ok (.putfield 111, 3) := by decide +kernel
theorem dX2_acceptRates_64 : decode cX2_acceptRates 64 = .ok (.aload_n 1, 1) := by decide +kernel
theorem dX2_acceptRates_65 : decode cX2_acceptRates 65 = .ok (.aload_n 0, 1) := by decide +kernel
theorem dX2_acceptRates_66 : decode cX2_acceptRates 66 = .ok (.getfield 9, 3) := by decide +kernel
theorem dX2_acceptRates_69 : decode cX2_acceptRates 69 = .ok (.iconst 2, 1) := by decide +kernel
theorem dX2_acceptRates_70 : decode cX2_acceptRates 70 = .ok (.iaload, 1) := by decide +kernel
theorem dX2_acceptRates_71 : decode cX2_acceptRates 71 = .ok (.putfield 114, 3) := by decide +kernel
theorem dX2_acceptRates_74 : decode cX2_acceptRates 74 = .ok (.iconst 1, 1) := by decide +kernel
theorem dX2_acceptRates_75 : decode cX2_acceptRates 75 = .ok (.ireturn, 1) := by decide +kernel
theorem dX3_init_0 : decode cX3_init 0 = .ok (.aload_n 0, 1) := by decide +kernel
theorem dX3_init_1 : decode cX3_init 1 = .ok (.invokespecial 3, 3) := by decide +kernel
theorem dX3_init_4 : decode cX3_init 4 = .ok (.aload_n 0, 1) := by decide +kernel
theorem dX3_init_5 : decode cX3_init 5 = .ok (.iconst 2, 1) := by decide +kernel
theorem dX3_init_6 : decode cX3_init 6 = .ok (.anewarray 9, 3) := by decide +kernel
theorem dX3_init_9 : decode cX3_init 9 = .ok (.putfield 11, 3) := by decide +kernel
theorem dX3_init_12 : decode cX3_init 12 = .ok (.aload_n 0, 1) := by decide +kernel
theorem dX3_init_13 : decode cX3_init 13 = .ok (.iconst 2, 1) := by decide +kernel
theorem dX3_init_14 : decode cX3_init 14 = .ok (.iconst 4, 1) := by decide +kernel
theorem dX3_init_15 : decode cX3_init 15 = .ok (.multianewarray 17 2, 4) := by decide +kernel
theorem dX3_init_19 : decode cX3_init 19 = .ok (.putfield 19, 3) := by decide +kernel
theorem dX3_init_22 : decode cX3_init 22 = .ok (.iconst 0, 1) := by decide +kernel
theorem dX3_init_23 : decode cX3_init 23 = .ok (.istore_n 1, 1) := by decide +kernel
theorem dX3_init_24 : decode cX3_init 24 = .ok (.iload_n 1, 1) := by decide +kernel
theorem dX3_init_25 : decode cX3_init 25 = .ok (.iconst 2, 1) := by decide +kernel
theorem dX3_init_26 : decode cX3_init 26 = .ok (.if_icmp .ge 22, 3) := by decide +kernel
theorem dX3_init_29 : decode cX3_init 29 = .ok (.aload_n 0, 1) := by decide +kernel
theorem dX3_init_30 : decode cX3_init 30 = .ok (.getfield 11, 3) := by decide +kernel
theorem dX3_init_33 : decode cX3_init 33 = .ok (.iload_n 1, 1) := by decide +kernel
theorem dX3_init_34 : decode cX3_init 34 = .ok (.new 9, 3) := by decide +kernel
theorem dX3_init_37 : decode cX3_init 37 = .ok (.dup, 1) := by decide +kernel
theorem dX3_init_38 : decode cX3_init 38 = .ok (.invokespecial 22, 3) := by decide +kernel
theorem dX3_init_41 : decode cX3_init 41 = .ok (.aastore, 1) := by decide +kernel
theorem dX3_init_42 : decode cX3_init 42 = .ok (.iinc 1 1, 3) := by decide +kernel
theorem dX3_init_45 : decode cX3_init 45 = .ok (.goto (-21), 3) := by decide +kernel
theorem dX3_init_48 : decode cX3_init 48 = .ok (.return_, 1) := by decide +kernel
theorem dX3_store_0 : decode cX3_store 0 = .ok (.aload_n 0, 1) := by decide +kernel
theorem dX3_store_1 : decode cX3_store 1 = .ok (.getfield 23, 3) := by decide +kernel
theorem dX3_store_4 : decode cX3_store 4 = .ok (.iconst 2, 1) := by decide +kernel
theorem dX3_store_5 : decode cX3_store 5 = .ok (.if_icmp .ge 51, 3) := by decide +kernel
theorem dX3_store_8 : decode cX3_store 8 = .ok (.aload_n 0, 1) := by decide +kernel
theorem dX3_store_9 : decode cX3_store 9 = .ok (.getfield 11, 3) := by decide +kernel
theorem dX3_store_12 : decode cX3_store 12 = .ok (.aload_n 0, 1) := by decide +kernel
theorem dX3_store_13 : decode cX3_store 13 = .ok (.getfield 23, 3) := by decide +kernel
theorem dX3_store_16 : decode cX3_store 16 = .ok (.aaload, 1) := by decide +kernel
theorem dX3_store_17 : decode cX3_store 17 = .ok (.aload_n 1, 1) := by decide +kernel
theorem dX3_store_18 : decode cX3_store 18 = .ok (.getfield 27, 3) := by decide +kernel
theorem dX3_store_21 : decode cX3_store 21 = .ok (.invokevirtual 32, 3) := by decide +kernel
theorem dX3_store_24 : decode cX3_store 24 = .ok (.aload_n 1, 1) := by decide +kernel
theorem dX3_store_25 : decode cX3_store 25 = .ok (.getfield 36, 3) := by decide +kernel
theorem dX3_store_28 : decode cX3_store 28 = .ok (.getfield 40, 3) := by decide +kernel
theorem dX3_store_31 : decode cX3_store 31 = .ok (.iconst 0, 1) := by decide +kernel
theorem dX3_store_32 : decode cX3_store 32 = .ok (.aload_n 0, 1) := by decide +kernel
theorem dX3_store_33 : decode cX3_store 33 = .ok (.getfield 19, 3) := by decide +kernel
theorem dX3_store_36 : decode cX3_store 36 = .ok (.aload_n 0, 1) := by decide +kernel
theorem dX3_store_37 : decode cX3_store 37 = .ok (.getfield 23, 3) := by decide +kernel
theorem dX3_store_40 : decode cX3_store 40 = .ok (.aaload, 1) := by decide +kernel
theorem dX3_store_41 : decode cX3_store 41 = .ok (.iconst 0, 1) := by decide +kernel
theorem dX3_store_42 : decode cX3_store 42 = .ok (.iconst 4, 1) := by decide +kernel
theorem dX3_store_43 : decode cX3_store 43 = .ok (.invokestatic 45, 3) := by decide +kernel
theorem dX3_store_46 : decode cX3_store 46 = .ok (.aload_n 0, 1) := by decide +kernel
theorem dX3_store_47 : decode cX3_store 47 = .ok (.dup, 1) := by decide +kernel
theorem dX3_store_48 : decode cX3_store 48 = .ok (.getfield 23, 3) := by decide +kernel
theorem dX3_store_51 : decode cX3_store 51 = .ok (.iconst 1, 1) := by decide +kernel
theorem dX3_store_52 : decode cX3_store 52 = .ok (.iadd, 1) := by decide +kernel
theorem dX3_store_53 : decode cX3_store 53 = .ok (.putfield 23, 3) := by decide +kernel
theorem dX3_store_56 : decode cX3_store 56 = .ok (.return_, 1) := by decide +kernel
theorem dX3_restoreLast_0 : decode cX3_restoreLast 0 = .ok (.aload_n 0, 1) := by decide +kernel
theorem dX3_restoreLast_1 : decode cX3_restoreLast 1 = .ok (.getfield 23, 3) := by decide +kernel
theorem dX3_restoreLast_4 : decode cX3_restoreLast 4 = .ok (.ifCond .le 51, 3) := by decide +kernel
theorem dX3_restoreLast_7 : decode cX3_restoreLast 7 = .ok (.aload_n 0, 1) := by decide +kernel
theorem dX3_restoreLast_8 : decode cX3_restoreLast 8 = .ok (.dup, 1) := by decide +kernel
theorem dX3_restoreLast_9 : decode cX3_restoreLast 9 = .ok (.getfield 23, 3) := by decide +kernel
theorem dX3_restoreLast_12 : decode cX3_restoreLast 12 = .ok (.iconst 1, 1) := by decide +kernel
theorem dX3_restoreLast_13 : decode cX3_restoreLast 13 = .ok (.isub, 1) := by decide +kernel
theorem dX3_restoreLast_14 : decode cX3_restoreLast 14 = .ok (.putfield 23, 3) := by decide +kernel
theorem dX3_restoreLast_17 : decode cX3_restoreLast 17 = .ok (.aload_n 1, 1) := by decide +kernel
theorem dX3_restoreLast_18 : decode cX3_restoreLast 18 = .ok (.getfield 27, 3) := by decide +kernel
theorem dX3_restoreLast_21 : decode cX3_restoreLast 21 = .ok (.aload_n 0, 1) := by decide +kernel
theorem dX3_restoreLast_22 : decode cX3_restoreLast 22 = .ok (.getfield 11, 3) := by decide +kernel
theorem dX3_restoreLast_25 : decode cX3_restoreLast 25 = .ok (.aload_n 0, 1) := by decide +kernel
theorem dX3_restoreLast_26 : decode cX3_restoreLast 26 = .ok (.getfield 23, 3) := by decide +kernel
theorem dX3_restoreLast_29 : decode cX3_restoreLast 29 = .ok (.aaload, 1) := by decide +kernel
theorem dX3_restoreLast_30 : decode cX3_restoreLast 30 = .ok (.invokevirtual 32, 3) := by decide +kernel
theorem dX3_restoreLast_33 : decode cX3_restoreLast 33 = .ok (.aload_n 0, 1) := by decide +kernel
theorem dX3_restoreLast_34 : decode cX3_restoreLast 34 = .ok (.getfield 19, 3) := by decide +kernel
theorem dX3_restoreLast_37 : decode cX3_restoreLast 37 = .ok (.aload_n 0, 1) := by decide +kernel
theorem dX3_restoreLast_38 : decode cX3_restoreLast 38 = .ok (.getfield 23, 3) := by decide +kernel
theorem dX3_restoreLast_41 : decode cX3_restoreLast 41 = .ok (.aaload, 1) := by decide +kernel
theorem dX3_restoreLast_42 : decode cX3_restoreLast 42 = .ok (.iconst 0, 1) := by decide +kernel
theorem dX3_restoreLast_43 : decode cX3_restoreLast 43 = .ok (.aload_n 1, 1) := by decide +kernel
theorem dX3_restoreLast_44 : decode cX3_restoreLast 44 = .ok (.getfield 36, 3) := by decide +kernel
theorem dX3_restoreLast_47 : decode cX3_restoreLast 47 = .ok (.getfield 40, 3) := by decide +kernel
theorem dX3_restoreLast_50 : decode cX3_restoreLast 50 = .ok (.iconst 0, 1) := by decide +kernel
theorem dX3_restoreLast_51 : decode cX3_restoreLast 51 = .ok (.iconst 4, 1) := by decide +kernel
theorem dX3_restoreLast_52 : decode cX3_restoreLast 52 = .ok (.invokestatic 45, 3) := by decide +kernel
theorem dX3_restoreLast_55 : decode cX3_restoreLast 55 = .ok (.return_, 1) := by decide +kernel
theorem dX4_init_0 : decode cX4_init 0 = .ok (.aload_n 0, 1) := by decide +kernel
theorem dX4_init_1 : decode cX4_init 1 = .ok (.invokespecial 3, 3) := by decide +kernel
theorem dX4_init_4 : decode cX4_init 4 = .ok (.aload_n 0, 1) := by decide +kernel
theorem dX4_init_5 : decode cX4_init 5 = .ok (.bipush 8, 2) := by decide +kernel
theorem dX4_init_7 : decode cX4_init 7 = .ok (.newarray .int, 2) := by decide +kernel
theorem dX4_init_9 : decode cX4_init 9 = .ok (.putfield 9, 3) := by decide +kernel
theorem dX4_init_12 : decode cX4_init 12 = .ok (.aload_n 0, 1) := by decide +kernel
theorem dX4_init_13 : decode cX4_init 13 = .ok (.bipush 8, 2) := by decide +kernel
theorem dX4_init_15 : decode cX4_init 15 = .ok (.newarray .int, 2) := by decide +kernel
theorem dX4_init_17 : decode cX4_init 17 = .ok (.putfield 15, 3) := by decide +kernel
theorem dX4_init_20 : decode cX4_init 20 = .ok (.aload_n 0, 1) := by decide +kernel
theorem dX4_init_21 : decode cX4_init 21 = .ok (.bipush 8, 2) := by decide +kernel
theorem dX4_init_23 : decode cX4_init 23 = .ok (.newarray .int, 2) := by decide +kernel
theorem dX4_init_25 : decode cX4_init 25 = .ok (.putfield 18, 3) := by decide +kernel
theorem dX4_init_28 : decode cX4_init 28 = .ok (.return_, 1) := by decide +kernel
theorem dX4_add_0 : decode cX4_add 0 = .ok (.aload_n 0, 1) := by decide +kernel
theorem dX4_add_1 : decode cX4_add 1 = .ok (.getfield 21, 3) := by decide +kernel
theorem dX4_add_4 : decode cX4_add 4 = .ok (.bipush 8, 2) := by decide +kernel
theorem dX4_add_6 : decode cX4_add 6 = .ok (.if_icmp .ge 43, 3) := by decide +kernel
theorem dX4_add_9 : decode cX4_add 9 = .ok (.aload_n 0, 1) := by decide +kernel
theorem dX4_add_10 : decode cX4_add 10 = .ok (.getfield 9, 3) := by decide +kernel
theorem dX4_add_13 : decode cX4_add 13 = .ok (.aload_n 0, 1) := by decide +kernel
theorem dX4_add_14 : decode cX4_add 14 = .ok (.getfield 21, 3) := by decide +kernel
theorem dX4_add_17 : decode cX4_add 17 = .ok (.iload_n 1, 1) := by decide +kernel
theorem dX4_add_18 : decode cX4_add 18 = .ok (.iastore, 1) := by decide +kernel
theorem dX4_add_19 : decode cX4_add 19 = .ok (.aload_n 0, 1) := by decide +kernel
theorem dX4_add_20 : decode cX4_add 20 = .ok (.getfield 15, 3) := by decide +kernel
theorem dX4_add_23 : decode cX4_add 23 = .ok (.aload_n 0, 1) := by decide +kernel
theorem dX4_add_24 : decode cX4_add 24 = .ok (.getfield 21, 3) := by decide +kernel
theorem dX4_add_27 : decode cX4_add 27 = .ok (.iload_n 2, 1) := by decide +kernel
theorem dX4_add_28 : decode cX4_add 28 = .ok (.iastore, 1) := by decide +kernel
theorem dX4_add_29 : decode cX4_add 29 = .ok (.aload_n 0, 1) := by decide +kernel
theorem dX4_add_30 : decode cX4_add 30 = .ok (.getfield 18, 3) := by decide +kernel
theorem dX4_add_33 : decode cX4_add 33 = .ok (.aload_n 0, 1) := by decide +kernel
theorem dX4_add_34 : decode cX4_add 34 = .ok (.getfield 21, 3) := by decide +kernel
theorem dX4_add_37 : decode cX4_add 37 = .ok (.iload_n 3, 1) := by decide +kernel
theorem dX4_add_38 : decode cX4_add 38 = .ok (.iastore, 1) := by decide +kernel
theorem dX4_add_39 : decode cX4_add 39 = .ok (.aload_n 0, 1) := by decide +kernel
theorem dX4_add_40 : decode cX4_add 40 = .ok (.dup, 1) := by decide +kernel
theorem dX4_add_41 : decode cX4_add 41 = .ok (.getfield 21, 3) := by decide +kernel
theorem dX4_add_44 : decode cX4_add 44 = .ok (.iconst 1, 1) := by decide +kernel
theorem dX4_add_45 : decode cX4_add 45 = .ok (.iadd, 1) := by decide +kernel
theorem dX4_add_46 : decode cX4_add 46 = .ok (.putfield 21, 3) := by decide +kernel
theorem dX4_add_49 : decode cX4_add 49 = .ok (.return_, 1) := by decide +kernel
theorem dX4_fit_0 : decode cX4_fit 0 = .ok (.iconst 0, 1) := by decide +kernel
theorem dX4_fit_1 : decode cX4_fit 1 = .ok (.istore_n 3, 1) := by decide +kernel
theorem dX4_fit_2 : decode cX4_fit 2 = .ok (.iload_n 3, 1) := by decide +kernel
theorem dX4_fit_3 : decode cX4_fit 3 = .ok (.aload_n 0, 1) := by decide +kernel
theorem dX4_fit_4 : decode cX4_fit 4 = .ok (.getfield 21, 3) := by decide +kernel
theorem dX4_fit_7 : decode cX4_fit 7 = .ok (.if_icmp .ge 40, 3) := by decide +kernel
theorem dX4_fit_10 : decode cX4_fit 10 = .ok (.aload_n 0, 1) := by decide +kernel
theorem dX4_fit_11 : decode cX4_fit 11 = .ok (.getfield 9, 3) := by decide +kernel
theorem dX4_fit_14 : decode cX4_fit 14 = .ok (.iload_n 3, 1) := by decide +kernel
theorem dX4_fit_15 : decode cX4_fit 15 = .ok (.iaload, 1) := by decide +kernel
theorem dX4_fit_16 : decode cX4_fit 16 = .ok (.iload_n 1, 1) := by decide +kernel
theorem dX4_fit_17 : decode cX4_fit 17 = .ok (.if_icmp .ne 24, 3) := by decide +kernel
theorem dX4_fit_20 : decode cX4_fit 20 = .ok (.aload_n 2, 1) := by decide +kernel
theorem dX4_fit_21 : decode cX4_fit 21 = .ok (.aload_n 0, 1) := by decide +kernel
theorem dX4_fit_22 : decode cX4_fit 22 = .ok (.getfield 18, 3) := by decide +kernel
theorem dX4_fit_25 : decode cX4_fit 25 = .ok (.iload_n 3, 1) := by decide +kernel
theorem dX4_fit_26 : decode cX4_fit 26 = .ok (.iaload, 1) := by decide +kernel
theorem dX4_fit_27 : decode cX4_fit 27 = .ok (.invokevirtual 25, 3) := by decide +kernel
theorem dX4_fit_30 : decode cX4_fit 30 = .ok (.aload_n 0, 1) := by decide +kernel
theorem dX4_fit_31 : decode cX4_fit 31 = .ok (.getfield 15, 3) := by decide +kernel
theorem dX4_fit_34 : decode cX4_fit 34 = .ok (.iload_n 3, 1) := by decide +kernel
theorem dX4_fit_35 : decode cX4_fit 35 = .ok (.iaload, 1) := by decide +kernel
theorem dX4_fit_36 : decode cX4_fit 36 = .ok (.if_icmp .eq 5, 3) := by decide +kernel
theorem dX4_fit_39 : decode cX4_fit 39 = .ok (.iconst 0, 1) := by decide +kernel
theorem dX4_fit_40 : decode cX4_fit 40 = .ok (.ireturn, 1) := by decide +kernel
theorem dX4_fit_41 : decode cX4_fit 41 = .ok (.iinc 3 1, 3) := by decide +kernel
theorem dX4_fit_44 : decode cX4_fit 44 = .ok (.goto (-42), 3) := by decide +kernel
theorem dX4_fit_47 : decode cX4_fit 47 = .ok (.iconst 1, 1) := by decide +kernel
theorem dX4_fit_48 : decode cX4_fit 48 = .ok (.ireturn, 1) := by decide +kernel
theorem dX5_init_0 : decode cX5_init 0 = .ok (.aload_n 0, 1) := by decide +kernel
theorem dX5_init_1 : decode cX5_init 1 = .ok (.invokespecial 3, 3) := by decide +kernel
theorem dX5_init_4 : decode cX5_init 4 = .ok (.aload_n 0, 1) := by decide +kernel
theorem dX5_init_5 : decode cX5_init 5 = .ok (.bipush 9, 2) := by decide +kernel
theorem dX5_init_7 : decode cX5_init 7 = .ok (.newarray .int, 2) := by decide +kernel
theorem dX5_init_9 : decode cX5_init 9 = .ok (.putfield 11, 3) := by decide +kernel
theorem dX5_init_12 : decode cX5_init 12 = .ok (.aload_n 0, 1) := by decide +kernel
theorem dX5_init_13 : decode cX5_init 13 = .ok (.bipush 9, 2) := by decide +kernel
theorem dX5_init_15 : decode cX5_init 15 = .ok (.newarray .int, 2) := by decide +kernel
theorem dX5_init_17 : decode cX5_init 17 = .ok (.putfield 15, 3) := by decide +kernel
theorem dX5_init_20 : decode cX5_init 20 = .ok (.aload_n 0, 1) := by decide +kernel
theorem dX5_init_21 : decode cX5_init 21 = .ok (.bipush 9, 2) := by decide +kernel
theorem dX5_init_23 : decode cX5_init 23 = .ok (.newarray .int, 2) := by decide +kernel
theorem dX5_init_25 : decode cX5_init 25 = .ok (.putfield 18, 3) := by decide +kernel
theorem dX5_init_28 : decode cX5_init 28 = .ok (.return_, 1) := by decide +kernel
theorem dX5_insert_0 : decode cX5_insert 0 = .ok (.aload_n 0, 1) := by decide +kernel
theorem dX5_insert_1 : decode cX5_insert 1 = .ok (.getfield 21, 3) := by decide +kernel
theorem dX5_insert_4 : decode cX5_insert 4 = .ok (.bipush 9, 2) := by decide +kernel
theorem dX5_insert_6 : decode cX5_insert 6 = .ok (.if_icmp .ge 15, 3) := by decide +kernel
theorem dX5_insert_9 : decode cX5_insert 9 = .ok (.iload_n 1, 1) := by decide +kernel
theorem dX5_insert_10 : decode cX5_insert 10 = .ok (.ifCond .lt 11, 3) := by decide +kernel
theorem dX5_insert_13 : decode cX5_insert 13 = .ok (.iload_n 1, 1) := by decide +kernel
theorem dX5_insert_14 : decode cX5_insert 14 = .ok (.aload_n 0, 1) := by decide +kernel
theorem dX5_insert_15 : decode cX5_insert 15 = .ok (.getfield 21, 3) := by decide +kernel
theorem dX5_insert_18 : decode cX5_insert 18 = .ok (.if_icmp .le 4, 3) := by decide +kernel
theorem dX5_insert_21 : decode cX5_insert 21 = .ok (.return_, 1) := by decide +kernel
theorem dX5_insert_22 : decode cX5_insert 22 = .ok (.aload_n 0, 1) := by decide +kernel
theorem dX5_insert_23 : decode cX5_insert 23 = .ok (.getfield 21, 3) := by decide +kernel
theorem dX5_insert_26 : decode cX5_insert 26 = .ok (.istore 5, 2) := by decide +kernel
theorem dX5_insert_28 : decode cX5_insert 28 = .ok (.iload 5, 2) := by decide +kernel
theorem dX5_insert_30 : decode cX5_insert 30 = .ok (.iload_n 1, 1) := by decide +kernel
theorem dX5_insert_31 : decode cX5_insert 31 = .ok (.if_icmp .le 19, 3) := by decide +kernel
theorem dX5_insert_34 : decode cX5_insert 34 = .ok (.aload_n 0, 1) := by decide +kernel
theorem dX5_insert_35 : decode cX5_insert 35 = .ok (.iload 5, 2) := by decide +kernel
theorem dX5_insert_37 : decode cX5_insert 37 = .ok (.iconst 1, 1) := by decide +kernel
theorem dX5_insert_38 : decode cX5_insert 38 = .ok (.isub, 1) := by decide +kernel
theorem dX5_insert_39 : decode cX5_insert 39 = .ok (.iload 5, 2) := by decide +kernel
theorem dX5_insert_41 : decode cX5_insert 41 = .ok (.invokevirtual 25, 3) := by decide +kernel
theorem dX5_insert_44 : decode cX5_insert 44 = .ok (.iinc 5 (-1), 3) := by decide +kernel
theorem dX5_insert_47 : decode cX5_insert 47 = .ok (.goto (-19), 3) := by decide +kernel
theorem dX5_insert_50 : decode cX5_insert 50 = .ok (.aload_n 0, 1) := by decide +kernel
theorem dX5_insert_51 : decode cX5_insert 51 = .ok (.getfield 11, 3) := by decide +kernel
theorem dX5_insert_54 : decode cX5_insert 54 = .ok (.iload_n 1, 1) := by decide +kernel
theorem dX5_insert_55 : decode cX5_insert 55 = .ok (.iload_n 2, 1) := by decide +kernel
theorem dX5_insert_56 : decode cX5_insert 56 = .ok (.iastore, 1) := by decide +kernel
theorem dX5_insert_57 : decode cX5_insert 57 = .ok (.aload_n 0, 1) := by decide +kernel
theorem dX5_insert_58 : decode cX5_insert 58 = .ok (.getfield 15, 3) := by decide +kernel
theorem dX5_insert_61 : decode cX5_insert 61 = .ok (.iload_n 1, 1) := by decide +kernel
theorem dX5_insert_62 : decode cX5_insert 62 = .ok (.iload_n 3, 1) := by decide +kernel
theorem dX5_insert_63 : decode cX5_insert 63 = .ok (.iastore, 1) := by decide +kernel
theorem dX5_insert_64 : decode cX5_insert 64 = .ok (.aload_n 0, 1) := by decide +kernel
theorem dX5_insert_65 : decode cX5_insert 65 = .ok (.getfield 18, 3) := by decide +kernel
theorem dX5_insert_68 : decode cX5_insert 68 = .ok (.iload_n 1, 1) := by decide +kernel
theorem dX5_insert_69 : decode cX5_insert 69 = .ok (.iload 4, 2) := by decide +kernel
theorem dX5_insert_71 : decode cX5_insert 71 = .ok (.iastore, 1) := by decide +kernel
theorem dX5_insert_72 : decode cX5_insert 72 = .ok (.aload_n 0, 1) := by decide +kernel
theorem dX5_insert_73 : decode cX5_insert 73 = .ok (.dup, 1) := by decide +kernel
theorem dX5_insert_74 : decode cX5_insert 74 = .ok (.getfield 21, 3) := by decide +kernel
theorem dX5_insert_77 : decode cX5_insert 77 = .ok (.iconst 1, 1) := by decide +kernel
theorem dX5_insert_78 : decode cX5_insert 78 = .ok (.iadd, 1) := by decide +kernel
theorem dX5_insert_79 : decode cX5_insert 79 = .ok (.putfield 21, 3) := by decide +kernel
theorem dX5_insert_82 : decode cX5_insert 82 = .ok (.return_, 1) := by decide +kernel
theorem dX5_remove_0 : decode cX5_remove 0 = .ok (.iload_n 1, 1) := by decide +kernel
theorem dX5_remove_1 : decode cX5_remove 1 = .ok (.ifCond .lt 11, 3) := by decide +kernel
theorem dX5_remove_4 : decode cX5_remove 4 = .ok (.iload_n 1, 1) := by decide +kernel
theorem dX5_remove_5 : decode cX5_remove 5 = .ok (.aload_n 0, 1) := by decide +kernel
theorem dX5_remove_6 : decode cX5_remove 6 = .ok (.getfield 21, 3) := by decide +kernel
theorem dX5_remove_9 : decode cX5_remove 9 = .ok (.if_icmp .lt 4, 3) := by decide +kernel
theorem dX5_remove_12 : decode cX5_remove 12 = .ok (.return_, 1) := by decide +kernel
theorem dX5_remove_13 : decode cX5_remove 13 = .ok (.iload_n 1, 1) := by decide +kernel
theorem dX5_remove_14 : decode cX5_remove 14 = .ok (.iconst 1, 1) := by decide +kernel
theorem dX5_remove_15 : decode cX5_remove 15 = .ok (.iadd, 1) := by decide +kernel
theorem dX5_remove_16 : decode cX5_remove 16 = .ok (.istore_n 2, 1) := by decide +kernel
theorem dX5_remove_17 : decode cX5_remove 17 = .ok (.iload_n 2, 1) := by decide +kernel
theorem dX5_remove_18 : decode cX5_remove 18 = .ok (.aload_n 0, 1) := by decide +kernel
theorem dX5_remove_19 : decode cX5_remove 19 = .ok (.getfield 21, 3) := by decide +kernel
theorem dX5_remove_22 : decode cX5_remove 22 = .ok (.if_icmp .ge 17, 3) := by decide +kernel
theorem dX5_remove_25 : decode cX5_remove 25 = .ok (.aload_n 0, 1) := by decide +kernel
theorem dX5_remove_26 : decode cX5_remove 26 = .ok (.iload_n 2, 1) := by decide +kernel
theorem dX5_remove_27 : decode cX5_remove 27 = .ok (.iload_n 2, 1) := by decide +kernel
theorem dX5_remove_28 : decode cX5_remove 28 = .ok (.iconst 1, 1) := by decide +kernel
theorem dX5_remove_29 : decode cX5_remove 29 = .ok (.isub, 1) := by decide +kernel
theorem dX5_remove_30 : decode cX5_remove 30 = .ok (.invokevirtual 25, 3) := by decide +kernel
theorem dX5_remove_33 : decode cX5_remove 33 = .ok (.iinc 2 1, 3) := by decide +kernel
theorem dX5_remove_36 : decode cX5_remove 36 = .ok (.goto (-19), 3) := by decide +kernel
theorem dX5_remove_39 : decode cX5_remove 39 = .ok (.aload_n 0, 1) := by decide +kernel
theorem dX5_remove_40 : decode cX5_remove 40 = .ok (.dup, 1) := by decide +kernel
theorem dX5_remove_41 : decode cX5_remove 41 = .ok (.getfield 21, 3) := by decide +kernel
theorem dX5_remove_44 : decode cX5_remove 44 = .ok (.iconst 1, 1) := by decide +kernel
theorem dX5_remove_45 : decode cX5_remove 45 = .ok (.isub, 1) := by decide +kernel
theorem dX5_remove_46 : decode cX5_remove 46 = .ok (.putfield 21, 3) := by decide +kernel
theorem dX5_remove_49 : decode cX5_remove 49 = .ok (.return_, 1) := by decide +kernel
theorem dX5_move_0 : decode cX5_move 0 = .ok (.aload_n 0, 1) := by decide +kernel
theorem dX5_move_1 : decode cX5_move 1 = .ok (.getfield 11, 3) := by decide +kernel
theorem dX5_move_4 : decode cX5_move 4 = .ok (.iload_n 2, 1) := by decide +kernel
theorem dX5_move_5 : decode cX5_move 5 = .ok (.aload_n 0, 1) := by decide +kernel
theorem dX5_move_6 : decode cX5_move 6 = .ok (.getfield 11, 3) := by decide +kernel
theorem dX5_move_9 : decode cX5_move 9 = .ok (.iload_n 1, 1) := by decide +kernel
theorem dX5_move_10 : decode cX5_move 10 = .ok (.iaload, 1) := by decide +kernel
theorem dX5_move_11 : decode cX5_move 11 = .ok (.iastore, 1) := by decide +kernel
theorem dX5_move_12 : decode cX5_move 12 = .ok (.aload_n 0, 1) := by decide +kernel
theorem dX5_move_13 : decode cX5_move 13 = .ok (.getfield 15, 3) := by decide +kernel
theorem dX5_move_16 : decode cX5_move 16 = .ok (.iload_n 2, 1) := by decide +kernel
theorem dX5_move_17 : decode cX5_move 17 = .ok (.aload_n 0, 1) := by decide +kernel
theorem dX5_move_18 : decode cX5_move 18 = .ok (.getfield 15, 3) := by decide +kernel
theorem dX5_move_21 : decode cX5_move 21 = .ok (.iload_n 1, 1) := by decide +kernel
theorem dX5_move_22 : decode cX5_move 22 = .ok (.iaload, 1) := by decide +kernel
theorem dX5_move_23 : decode cX5_move 23 = .ok (.iastore, 1) := by decide +kernel
theorem dX5_move_24 : decode cX5_move 24 = .ok (.aload_n 0, 1) := by decide +kernel
theorem dX5_move_25 : decode cX5_move 25 = .ok (.getfield 18, 3) := by decide +kernel
theorem dX5_move_28 : decode cX5_move 28 = .ok (.iload_n 2, 1) := by decide +kernel
theorem dX5_move_29 : decode cX5_move 29 = .ok (.aload_n 0, 1) := by decide +kernel
theorem dX5_move_30 : decode cX5_move 30 = .ok (.getfield 18, 3) := by decide +kernel
theorem dX5_move_33 : decode cX5_move 33 = .ok (.iload_n 1, 1) := by decide +kernel
theorem dX5_move_34 : decode cX5_move 34 = .ok (.iaload, 1) := by decide +kernel
theorem dX5_move_35 : decode cX5_move 35 = .ok (.iastore, 1) := by decide +kernel
theorem dX5_move_36 : decode cX5_move 36 = .ok (.return_, 1) := by decide +kernel
theorem dX5_copyFrom_0 : decode cX5_copyFrom 0 = .ok (.aload_n 1, 1) := by decide +kernel
theorem dX5_copyFrom_1 : decode cX5_copyFrom 1 = .ok (.getfield 11, 3) := by decide +kernel
theorem dX5_copyFrom_4 : decode cX5_copyFrom 4 = .ok (.iconst 0, 1) := by decide +kernel
theorem dX5_copyFrom_5 : decode cX5_copyFrom 5 = .ok (.aload_n 0, 1) := by decide +kernel
theorem dX5_copyFrom_6 : decode cX5_copyFrom 6 = .ok (.getfield 11, 3) := by decide +kernel
theorem dX5_copyFrom_9 : decode cX5_copyFrom 9 = .ok (.iconst 0, 1) := by decide +kernel
theorem dX5_copyFrom_10 : decode cX5_copyFrom 10 = .ok (.bipush 9, 2) := by decide +kernel
theorem dX5_copyFrom_12 : decode cX5_copyFrom 12 = .ok (.invokestatic 29, 3) := by decide +kernel
theorem dX5_copyFrom_15 : decode cX5_copyFrom 15 = .ok (.aload_n 1, 1) := by decide +kernel
theorem dX5_copyFrom_16 : decode cX5_copyFrom 16 = .ok (.getfield 15, 3) := by decide +kernel
theorem dX5_copyFrom_19 : decode cX5_copyFrom 19 = .ok (.iconst 0, 1) := by decide +kernel
theorem dX5_copyFrom_20 : decode cX5_copyFrom 20 = .ok (.aload_n 0, 1) := by decide +kernel
theorem dX5_copyFrom_21 : decode cX5_copyFrom 21 = .ok (.getfield 15, 3) := by decide +kernel
theorem dX5_copyFrom_24 : decode cX5_copyFrom 24 = .ok (.iconst 0, 1) := by decide +kernel
theorem dX5_copyFrom_25 : decode cX5_copyFrom 25 = .ok (.bipush 9, 2) := by decide +kernel
theorem dX5_copyFrom_27 : decode cX5_copyFrom 27 = .ok (.invokestatic 29, 3) := by decide +kernel
theorem dX5_copyFrom_30 : decode cX5_copyFrom 30 = .ok (.aload_n 1, 1) := by decide +kernel
theorem dX5_copyFrom_31 : decode cX5_copyFrom 31 = .ok (.getfield 18, 3) := by decide +kernel
theorem dX5_copyFrom_34 : decode cX5_copyFrom 34 = .ok (.iconst 0, 1) := by decide +kernel
theorem dX5_copyFrom_35 : decode cX5_copyFrom 35 = .ok (.aload_n 0, 1) := by decide +kernel
theorem dX5_copyFrom_36 : decode cX5_copyFrom 36 = .ok (.getfield 18, 3) := by decide +kernel
theorem dX5_copyFrom_39 : decode cX5_copyFrom 39 = .ok (.iconst 0, 1) := by decide +kernel
theorem dX5_copyFrom_40 : decode cX5_copyFrom 40 = .ok (.bipush 9, 2) := by decide +kernel
theorem dX5_copyFrom_42 : decode cX5_copyFrom 42 = .ok (.invokestatic 29, 3) := by decide +kernel
theorem dX5_copyFrom_45 : decode cX5_copyFrom 45 = .ok (.aload_n 0, 1) := by decide +kernel
theorem dX5_copyFrom_46 : decode cX5_copyFrom 46 = .ok (.aload_n 1, 1) := by decide +kernel
theorem dX5_copyFrom_47 : decode cX5_copyFrom 47 = .ok (.getfield 21, 3) := by decide +kernel
theorem dX5_copyFrom_50 : decode cX5_copyFrom 50 = .ok (.putfield 21, 3) := by decide +kernel
theorem dX5_copyFrom_53 : decode cX5_copyFrom 53 = .ok (.return_, 1) := by decide +kernel
theorem dX5_latestFor_0 : decode cX5_latestFor 0 = .ok (.aload_n 0, 1) := by decide +kernel
theorem dX5_latestFor_1 : decode cX5_latestFor 1 = .ok (.getfield 21, 3) := by decide +kernel
theorem dX5_latestFor_4 : decode cX5_latestFor 4 = .ok (.iconst 1, 1) := by decide +kernel
theorem dX5_latestFor_5 : decode cX5_latestFor 5 = .ok (.isub, 1) := by decide +kernel
theorem dX5_latestFor_6 : decode cX5_latestFor 6 = .ok (.istore_n 3, 1) := by decide +kernel
theorem dX5_latestFor_7 : decode cX5_latestFor 7 = .ok (.iload_n 3, 1) := by decide +kernel
theorem dX5_latestFor_8 : decode cX5_latestFor 8 = .ok (.ifCond .lt 36, 3) := by decide +kernel
theorem dX5_latestFor_11 : decode cX5_latestFor 11 = .ok (.aload_n 0, 1) := by decide +kernel
theorem dX5_latestFor_12 : decode cX5_latestFor 12 = .ok (.getfield 11, 3) := by decide +kernel
theorem dX5_latestFor_15 : decode cX5_latestFor 15 = .ok (.iload_n 3, 1) := by decide +kernel
theorem dX5_latestFor_16 : decode cX5_latestFor 16 = .ok (.iaload, 1) := by decide +kernel
theorem dX5_latestFor_17 : decode cX5_latestFor 17 = .ok (.iload_n 1, 1) := by decide +kernel
theorem dX5_latestFor_18 : decode cX5_latestFor 18 = .ok (.if_icmp .ne 20, 3) := by decide +kernel
theorem dX5_latestFor_21 : decode cX5_latestFor 21 = .ok (.aload_n 0, 1) := by decide +kernel
theorem dX5_latestFor_22 : decode cX5_latestFor 22 = .ok (.getfield 15, 3) := by decide +kernel
theorem dX5_latestFor_25 : decode cX5_latestFor 25 = .ok (.iload_n 3, 1) := by decide +kernel
theorem dX5_latestFor_26 : decode cX5_latestFor 26 = .ok (.iaload, 1) := by decide +kernel
theorem dX5_latestFor_27 : decode cX5_latestFor 27 = .ok (.iload_n 2, 1) := by decide +kernel
theorem dX5_latestFor_28 : decode cX5_latestFor 28 = .ok (.if_icmp .ne 10, 3) := by decide +kernel
theorem dX5_latestFor_31 : decode cX5_latestFor 31 = .ok (.aload_n 0, 1) := by decide +kernel
theorem dX5_latestFor_32 : decode cX5_latestFor 32 = .ok (.getfield 18, 3) := by decide +kernel
theorem dX5_latestFor_35 : decode cX5_latestFor 35 = .ok (.iload_n 3, 1) := by decide +kernel
theorem dX5_latestFor_36 : decode cX5_latestFor 36 = .ok (.iaload, 1) := by decide +kernel
theorem dX5_latestFor_37 : decode cX5_latestFor 37 = .ok (.ireturn, 1) := by decide +kernel
theorem dX5_latestFor_38 : decode cX5_latestFor 38 = .ok (.iinc 3 (-1), 3) := by decide +kernel
theorem dX5_latestFor_41 : decode cX5_latestFor 41 = .ok (.goto (-34), 3) := by decide +kernel
theorem dX5_latestFor_44 : decode cX5_latestFor 44 = .ok (.iconst (-1), 1) := by decide +kernel
theorem dX5_latestFor_45 : decode cX5_latestFor 45 = .ok (.ireturn, 1) := by decide +kernel
theorem dX6_init_0 : decode cX6_init 0 = .ok (.aload_n 0, 1) := by decide +kernel
theorem dX6_init_1 : decode cX6_init 1 = .ok (.invokespecial 3, 3) := by decide +kernel
theorem dX6_init_4 : decode cX6_init 4 = .ok (.aload_n 0, 1) := by decide +kernel
theorem dX6_init_5 : decode cX6_init 5 = .ok (.bipush 12, 2) := by decide +kernel
theorem dX6_init_7 : decode cX6_init 7 = .ok (.newarray .int, 2) := by decide +kernel
theorem dX6_init_9 : decode cX6_init 9 = .ok (.putfield 9, 3) := by decide +kernel
theorem dX6_init_12 : decode cX6_init 12 = .ok (.aload_n 0, 1) := by decide +kernel
theorem dX6_init_13 : decode cX6_init 13 = .ok (.bipush 12, 2) := by decide +kernel
theorem dX6_init_15 : decode cX6_init 15 = .ok (.newarray .int, 2) := by decide +kernel
theorem dX6_init_17 : decode cX6_init 17 = .ok (.putfield 15, 3) := by decide +kernel
theorem dX6_init_20 : decode cX6_init 20 = .ok (.aload_n 0, 1) := by decide +kernel
theorem dX6_init_21 : decode cX6_init 21 = .ok (.bipush 8, 2) := by decide +kernel
theorem dX6_init_23 : decode cX6_init 23 = .ok (.bipush 8, 2) := by decide +kernel
theorem dX6_init_25 : decode cX6_init 25 = .ok (.multianewarray 18 2, 4) := by decide +kernel
theorem dX6_init_29 : decode cX6_init 29 = .ok (.putfield 20, 3) := by decide +kernel
theorem dX6_init_32 : decode cX6_init 32 = .ok (.aload_n 0, 1) := by decide +kernel
theorem dX6_init_33 : decode cX6_init 33 = .ok (.bipush 8, 2) := by decide +kernel
theorem dX6_init_35 : decode cX6_init 35 = .ok (.bipush 8, 2) := by decide +kernel
theorem dX6_init_37 : decode cX6_init 37 = .ok (.multianewarray 18 2, 4) := by decide +kernel
theorem dX6_init_41 : decode cX6_init 41 = .ok (.putfield 23, 3) := by decide +kernel
theorem dX6_init_44 : decode cX6_init 44 = .ok (.return_, 1) := by decide +kernel
theorem dX6_clear_0 : decode cX6_clear 0 = .ok (.aload_n 0, 1) := by decide +kernel
theorem dX6_clear_1 : decode cX6_clear 1 = .ok (.iconst 4, 1) := by decide +kernel
theorem dX6_clear_2 : decode cX6_clear 2 = .ok (.putfield 26, 3) := by decide +kernel
theorem dX6_clear_5 : decode cX6_clear 5 = .ok (.aload_n 0, 1) := by decide +kernel
theorem dX6_clear_6 : decode cX6_clear 6 = .ok (.iconst 0, 1) := by decide +kernel
theorem dX6_clear_7 : decode cX6_clear 7 = .ok (.putfield 30, 3) := by decide +kernel
theorem dX6_clear_10 : decode cX6_clear 10 = .ok (.iconst 0, 1) := by decide +kernel
theorem dX6_clear_11 : decode cX6_clear 11 = .ok (.istore_n 1, 1) := by decide +kernel
theorem dX6_clear_12 : decode cX6_clear 12 = .ok (.iload_n 1, 1) := by decide +kernel
theorem dX6_clear_13 : decode cX6_clear 13 = .ok (.bipush 8, 2) := by decide +kernel
theorem dX6_clear_15 : decode cX6_clear 15 = .ok (.if_icmp .ge 19, 3) := by decide +kernel
theorem dX6_clear_18 : decode cX6_clear 18 = .ok (.aload_n 0, 1) := by decide +kernel
theorem dX6_clear_19 : decode cX6_clear 19 = .ok (.getfield 20, 3) := by decide +kernel
theorem dX6_clear_22 : decode cX6_clear 22 = .ok (.iload_n 1, 1) := by decide +kernel
theorem dX6_clear_23 : decode cX6_clear 23 = .ok (.aaload, 1) := by decide +kernel
theorem dX6_clear_24 : decode cX6_clear 24 = .ok (.iconst 0, 1) := by decide +kernel
theorem dX6_clear_25 : decode cX6_clear 25 = .ok (.invokestatic 33, 3) := by decide +kernel
theorem dX6_clear_28 : decode cX6_clear 28 = .ok (.iinc 1 1, 3) := by decide +kernel
theorem dX6_clear_31 : decode cX6_clear 31 = .ok (.goto (-19), 3) := by decide +kernel
theorem dX6_clear_34 : decode cX6_clear 34 = .ok (.return_, 1) := by decide +kernel
theorem dX6_add_0 : decode cX6_add 0 = .ok (.aload_n 0, 1) := by decide +kernel
theorem dX6_add_1 : decode cX6_add 1 = .ok (.getfield 30, 3) := by decide +kernel
theorem dX6_add_4 : decode cX6_add 4 = .ok (.bipush 12, 2) := by decide +kernel
theorem dX6_add_6 : decode cX6_add 6 = .ok (.if_icmp .ge 51, 3) := by decide +kernel
theorem dX6_add_9 : decode cX6_add 9 = .ok (.aload_n 0, 1) := by decide +kernel
theorem dX6_add_10 : decode cX6_add 10 = .ok (.getfield 9, 3) := by decide +kernel
theorem dX6_add_13 : decode cX6_add 13 = .ok (.aload_n 0, 1) := by decide +kernel
theorem dX6_add_14 : decode cX6_add 14 = .ok (.getfield 30, 3) := by decide +kernel
theorem dX6_add_17 : decode cX6_add 17 = .ok (.iload_n 1, 1) := by decide +kernel
theorem dX6_add_18 : decode cX6_add 18 = .ok (.iastore, 1) := by decide +kernel
theorem dX6_add_19 : decode cX6_add 19 = .ok (.aload_n 0, 1) := by decide +kernel
theorem dX6_add_20 : decode cX6_add 20 = .ok (.getfield 15, 3) := by decide +kernel
