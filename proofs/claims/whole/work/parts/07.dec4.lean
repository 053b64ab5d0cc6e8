theorem dX12_takeDraft_185 : decode cX12_takeDraft 185 = .ok (.iastore, 1) := by decide +kernel
theorem dX12_takeDraft_186 : decode cX12_takeDraft 186 = .ok (.iinc 1 1, 3) := by decide +kernel
theorem dX12_takeDraft_189 : decode cX12_takeDraft 189 = .ok (.goto (-22), 3) := by decide +kernel
theorem dX12_takeDraft_192 : decode cX12_takeDraft 192 = .ok (.aload_n 0, 1) := by decide +kernel
theorem dX12_takeDraft_193 : decode cX12_takeDraft 193 = .ok (.getfield 47, 3) := by decide +kernel
theorem dX12_takeDraft_196 : decode cX12_takeDraft 196 = .ok (.iconst 0, 1) := by decide +kernel
theorem dX12_takeDraft_197 : decode cX12_takeDraft 197 = .ok (.aload_n 0, 1) := by decide +kernel
theorem dX12_takeDraft_198 : decode cX12_takeDraft 198 = .ok (.getfield 90, 3) := by decide +kernel
theorem dX12_takeDraft_201 : decode cX12_takeDraft 201 = .ok (.iastore, 1) := by decide +kernel
theorem dX12_takeDraft_202 : decode cX12_takeDraft 202 = .ok (.iconst 0, 1) := by decide +kernel
theorem dX12_takeDraft_203 : decode cX12_takeDraft 203 = .ok (.istore_n 1, 1) := by decide +kernel
theorem dX12_takeDraft_204 : decode cX12_takeDraft 204 = .ok (.iload_n 1, 1) := by decide +kernel
theorem dX12_takeDraft_205 : decode cX12_takeDraft 205 = .ok (.iconst 3, 1) := by decide +kernel
theorem dX12_takeDraft_206 : decode cX12_takeDraft 206 = .ok (.aload_n 0, 1) := by decide +kernel
theorem dX12_takeDraft_207 : decode cX12_takeDraft 207 = .ok (.getfield 90, 3) := by decide +kernel
theorem dX12_takeDraft_210 : decode cX12_takeDraft 210 = .ok (.imul, 1) := by decide +kernel
theorem dX12_takeDraft_211 : decode cX12_takeDraft 211 = .ok (.if_icmp .ge 23, 3) := by decide +kernel
theorem dX12_takeDraft_214 : decode cX12_takeDraft 214 = .ok (.aload_n 0, 1) := by decide +kernel
theorem dX12_takeDraft_215 : decode cX12_takeDraft 215 = .ok (.getfield 47, 3) := by decide +kernel
theorem dX12_takeDraft_218 : decode cX12_takeDraft 218 = .ok (.iconst 1, 1) := by decide +kernel
theorem dX12_takeDraft_219 : decode cX12_takeDraft 219 = .ok (.iload_n 1, 1) := by decide +kernel
theorem dX12_takeDraft_220 : decode cX12_takeDraft 220 = .ok (.iadd, 1) := by decide +kernel
theorem dX12_takeDraft_221 : decode cX12_takeDraft 221 = .ok (.aload_n 0, 1) := by decide +kernel
theorem dX12_takeDraft_222 : decode cX12_takeDraft 222 = .ok (.getfield 44, 3) := by decide +kernel
theorem dX12_takeDraft_225 : decode cX12_takeDraft 225 = .ok (.iload_n 1, 1) := by decide +kernel
theorem dX12_takeDraft_226 : decode cX12_takeDraft 226 = .ok (.iaload, 1) := by decide +kernel
theorem dX12_takeDraft_227 : decode cX12_takeDraft 227 = .ok (.iastore, 1) := by decide +kernel
theorem dX12_takeDraft_228 : decode cX12_takeDraft 228 = .ok (.iinc 1 1, 3) := by decide +kernel
theorem dX12_takeDraft_231 : decode cX12_takeDraft 231 = .ok (.goto (-27), 3) := by decide +kernel
theorem dX12_takeDraft_234 : decode cX12_takeDraft 234 = .ok (.aload_n 0, 1) := by decide +kernel
theorem dX12_takeDraft_235 : decode cX12_takeDraft 235 = .ok (.iconst 0, 1) := by decide +kernel
theorem dX12_takeDraft_236 : decode cX12_takeDraft 236 = .ok (.putfield 129, 3) := by decide +kernel
theorem dX12_takeDraft_239 : decode cX12_takeDraft 239 = .ok (.aload_n 0, 1) := by decide +kernel
theorem dX12_takeDraft_240 : decode cX12_takeDraft 240 = .ok (.iconst 0, 1) := by decide +kernel
theorem dX12_takeDraft_241 : decode cX12_takeDraft 241 = .ok (.putfield 132, 3) := by decide +kernel
theorem dX12_takeDraft_244 : decode cX12_takeDraft 244 = .ok (.aload_n 0, 1) := by decide +kernel
theorem dX12_takeDraft_245 : decode cX12_takeDraft 245 = .ok (.iconst 0, 1) := by decide +kernel
theorem dX12_takeDraft_246 : decode cX12_takeDraft 246 = .ok (.putfield 135, 3) := by decide +kernel
theorem dX12_takeDraft_249 : decode cX12_takeDraft 249 = .ok (.aload_n 0, 1) := by decide +kernel
theorem dX12_takeDraft_250 : decode cX12_takeDraft 250 = .ok (.bipush (-4), 2) := by decide +kernel
theorem dX12_takeDraft_252 : decode cX12_takeDraft 252 = .ok (.invokevirtual 138, 3) := by decide +kernel
theorem dX12_takeDraft_255 : decode cX12_takeDraft 255 = .ok (.return_, 1) := by decide +kernel
theorem dX12_lay_0 : decode cX12_lay 0 = .ok (.aload_n 0, 1) := by decide +kernel
theorem dX12_lay_1 : decode cX12_lay 1 = .ok (.invokevirtual 142, 3) := by decide +kernel
theorem dX12_lay_4 : decode cX12_lay 4 = .ok (.bipush (-4), 2) := by decide +kernel
theorem dX12_lay_6 : decode cX12_lay 6 = .ok (.if_icmp .ne 12, 3) := by decide +kernel
theorem dX12_lay_9 : decode cX12_lay 9 = .ok (.aload_n 0, 1) := by decide +kernel
theorem dX12_lay_10 : decode cX12_lay 10 = .ok (.getfield 29, 3) := by decide +kernel
theorem dX12_lay_13 : decode cX12_lay 13 = .ok (.iconst 1, 1) := by decide +kernel
theorem dX12_lay_14 : decode cX12_lay 14 = .ok (.iaload, 1) := by decide +kernel
theorem dX12_lay_15 : decode cX12_lay 15 = .ok (.ifCond .ne 6, 3) := by decide +kernel
theorem dX12_lay_18 : decode cX12_lay 18 = .ok (.bipush (-2), 2) := by decide +kernel
theorem dX12_lay_20 : decode cX12_lay 20 = .ok (.ireturn, 1) := by decide +kernel
theorem dX12_lay_21 : decode cX12_lay 21 = .ok (.aload_n 0, 1) := by decide +kernel
theorem dX12_lay_22 : decode cX12_lay 22 = .ok (.invokevirtual 87, 3) := by decide +kernel
theorem dX12_lay_25 : decode cX12_lay 25 = .ok (.aload_n 0, 1) := by decide +kernel
theorem dX12_lay_26 : decode cX12_lay 26 = .ok (.getfield 13, 3) := by decide +kernel
theorem dX12_lay_29 : decode cX12_lay 29 = .ok (.iconst 0, 1) := by decide +kernel
theorem dX12_lay_30 : decode cX12_lay 30 = .ok (.iaload, 1) := by decide +kernel
theorem dX12_lay_31 : decode cX12_lay 31 = .ok (.ireturn, 1) := by decide +kernel
theorem dX12_copy_0 : decode cX12_copy 0 = .ok (.iconst 0, 1) := by decide +kernel
theorem dX12_copy_1 : decode cX12_copy 1 = .ok (.istore_n 3, 1) := by decide +kernel
theorem dX12_copy_2 : decode cX12_copy 2 = .ok (.iload_n 3, 1) := by decide +kernel
theorem dX12_copy_3 : decode cX12_copy 3 = .ok (.bipush 32, 2) := by decide +kernel
theorem dX12_copy_5 : decode cX12_copy 5 = .ok (.if_icmp .ge 25, 3) := by decide +kernel
theorem dX12_copy_8 : decode cX12_copy 8 = .ok (.aload_n 0, 1) := by decide +kernel
theorem dX12_copy_9 : decode cX12_copy 9 = .ok (.getfield 47, 3) := by decide +kernel
theorem dX12_copy_12 : decode cX12_copy 12 = .ok (.iload_n 2, 1) := by decide +kernel
theorem dX12_copy_13 : decode cX12_copy 13 = .ok (.iload_n 3, 1) := by decide +kernel
theorem dX12_copy_14 : decode cX12_copy 14 = .ok (.iadd, 1) := by decide +kernel
theorem dX12_copy_15 : decode cX12_copy 15 = .ok (.aload_n 0, 1) := by decide +kernel
theorem dX12_copy_16 : decode cX12_copy 16 = .ok (.getfield 47, 3) := by decide +kernel
theorem dX12_copy_19 : decode cX12_copy 19 = .ok (.iload_n 1, 1) := by decide +kernel
theorem dX12_copy_20 : decode cX12_copy 20 = .ok (.iload_n 3, 1) := by decide +kernel
theorem dX12_copy_21 : decode cX12_copy 21 = .ok (.iadd, 1) := by decide +kernel
theorem dX12_copy_22 : decode cX12_copy 22 = .ok (.iaload, 1) := by decide +kernel
theorem dX12_copy_23 : decode cX12_copy 23 = .ok (.iastore, 1) := by decide +kernel
theorem dX12_copy_24 : decode cX12_copy 24 = .ok (.iinc 3 1, 3) := by decide +kernel
theorem dX12_copy_27 : decode cX12_copy 27 = .ok (.goto (-25), 3) := by decide +kernel
theorem dX12_copy_30 : decode cX12_copy 30 = .ok (.return_, 1) := by decide +kernel
theorem dX12_isCorner_0 : decode cX12_isCorner 0 = .ok (.iload_n 1, 1) := by decide +kernel
theorem dX12_isCorner_1 : decode cX12_isCorner 1 = .ok (.iconst 0, 1) := by decide +kernel
theorem dX12_isCorner_2 : decode cX12_isCorner 2 = .ok (.aload_n 0, 1) := by decide +kernel
theorem dX12_isCorner_3 : decode cX12_isCorner 3 = .ok (.getfield 13, 3) := by decide +kernel
theorem dX12_isCorner_6 : decode cX12_isCorner 6 = .ok (.iconst 0, 1) := by decide +kernel
theorem dX12_isCorner_7 : decode cX12_isCorner 7 = .ok (.iaload, 1) := by decide +kernel
theorem dX12_isCorner_8 : decode cX12_isCorner 8 = .ok (.iconst 1, 1) := by decide +kernel
theorem dX12_isCorner_9 : decode cX12_isCorner 9 = .ok (.isub, 1) := by decide +kernel
theorem dX12_isCorner_10 : decode cX12_isCorner 10 = .ok (.invokestatic 94, 3) := by decide +kernel
theorem dX12_isCorner_13 : decode cX12_isCorner 13 = .ok (.ireturn, 1) := by decide +kernel
theorem dX12_isWalker_0 : decode cX12_isWalker 0 = .ok (.iload_n 1, 1) := by decide +kernel
theorem dX12_isWalker_1 : decode cX12_isWalker 1 = .ok (.iconst 0, 1) := by decide +kernel
theorem dX12_isWalker_2 : decode cX12_isWalker 2 = .ok (.aload_n 0, 1) := by decide +kernel
theorem dX12_isWalker_3 : decode cX12_isWalker 3 = .ok (.getfield 29, 3) := by decide +kernel
theorem dX12_isWalker_6 : decode cX12_isWalker 6 = .ok (.iconst 0, 1) := by decide +kernel
theorem dX12_isWalker_7 : decode cX12_isWalker 7 = .ok (.iaload, 1) := by decide +kernel
theorem dX12_isWalker_8 : decode cX12_isWalker 8 = .ok (.iconst 1, 1) := by decide +kernel
theorem dX12_isWalker_9 : decode cX12_isWalker 9 = .ok (.isub, 1) := by decide +kernel
theorem dX12_isWalker_10 : decode cX12_isWalker 10 = .ok (.invokestatic 94, 3) := by decide +kernel
theorem dX12_isWalker_13 : decode cX12_isWalker 13 = .ok (.ireturn, 1) := by decide +kernel
theorem dX12_isSign_0 : decode cX12_isSign 0 = .ok (.iload_n 1, 1) := by decide +kernel
theorem dX12_isSign_1 : decode cX12_isSign 1 = .ok (.iconst 0, 1) := by decide +kernel
theorem dX12_isSign_2 : decode cX12_isSign 2 = .ok (.aload_n 0, 1) := by decide +kernel
theorem dX12_isSign_3 : decode cX12_isSign 3 = .ok (.getfield 47, 3) := by decide +kernel
theorem dX12_isSign_6 : decode cX12_isSign 6 = .ok (.iconst 0, 1) := by decide +kernel
theorem dX12_isSign_7 : decode cX12_isSign 7 = .ok (.iaload, 1) := by decide +kernel
theorem dX12_isSign_8 : decode cX12_isSign 8 = .ok (.iconst 1, 1) := by decide +kernel
theorem dX12_isSign_9 : decode cX12_isSign 9 = .ok (.isub, 1) := by decide +kernel
theorem dX12_isSign_10 : decode cX12_isSign 10 = .ok (.invokestatic 94, 3) := by decide +kernel
theorem dX12_isSign_13 : decode cX12_isSign 13 = .ok (.ireturn, 1) := by decide +kernel
theorem dX12_measure_0 : decode cX12_measure 0 = .ok (.iconst 0, 1) := by decide +kernel
theorem dX12_measure_1 : decode cX12_measure 1 = .ok (.istore_n 2, 1) := by decide +kernel
theorem dX12_measure_2 : decode cX12_measure 2 = .ok (.iload_n 2, 1) := by decide +kernel
theorem dX12_measure_3 : decode cX12_measure 3 = .ok (.bipush 64, 2) := by decide +kernel
theorem dX12_measure_5 : decode cX12_measure 5 = .ok (.if_icmp .ge 18, 3) := by decide +kernel
theorem dX12_measure_8 : decode cX12_measure 8 = .ok (.aload_n 0, 1) := by decide +kernel
theorem dX12_measure_9 : decode cX12_measure 9 = .ok (.getfield 50, 3) := by decide +kernel
theorem dX12_measure_12 : decode cX12_measure 12 = .ok (.iload_n 2, 1) := by decide +kernel
theorem dX12_measure_13 : decode cX12_measure 13 = .ok (.sipush 10000, 3) := by decide +kernel
theorem dX12_measure_16 : decode cX12_measure 16 = .ok (.iastore, 1) := by decide +kernel
theorem dX12_measure_17 : decode cX12_measure 17 = .ok (.iinc 2 1, 3) := by decide +kernel
theorem dX12_measure_20 : decode cX12_measure 20 = .ok (.goto (-18), 3) := by decide +kernel
theorem dX12_measure_23 : decode cX12_measure 23 = .ok (.iconst 0, 1) := by decide +kernel
theorem dX12_measure_24 : decode cX12_measure 24 = .ok (.istore_n 2, 1) := by decide +kernel
theorem dX12_measure_25 : decode cX12_measure 25 = .ok (.iload_n 2, 1) := by decide +kernel
theorem dX12_measure_26 : decode cX12_measure 26 = .ok (.aload_n 0, 1) := by decide +kernel
theorem dX12_measure_27 : decode cX12_measure 27 = .ok (.getfield 17, 3) := by decide +kernel
theorem dX12_measure_30 : decode cX12_measure 30 = .ok (.iconst 0, 1) := by decide +kernel
theorem dX12_measure_31 : decode cX12_measure 31 = .ok (.iaload, 1) := by decide +kernel
theorem dX12_measure_32 : decode cX12_measure 32 = .ok (.if_icmp .ge 68, 3) := by decide +kernel
theorem dX12_measure_35 : decode cX12_measure 35 = .ok (.iload_n 2, 1) := by decide +kernel
theorem dX12_measure_36 : decode cX12_measure 36 = .ok (.iload_n 1, 1) := by decide +kernel
theorem dX12_measure_37 : decode cX12_measure 37 = .ok (.if_icmp .eq 57, 3) := by decide +kernel
theorem dX12_measure_40 : decode cX12_measure 40 = .ok (.aload_n 0, 1) := by decide +kernel
theorem dX12_measure_41 : decode cX12_measure 41 = .ok (.getfield 50, 3) := by decide +kernel
theorem dX12_measure_44 : decode cX12_measure 44 = .ok (.bipush 8, 2) := by decide +kernel
theorem dX12_measure_46 : decode cX12_measure 46 = .ok (.aload_n 0, 1) := by decide +kernel
theorem dX12_measure_47 : decode cX12_measure 47 = .ok (.getfield 20, 3) := by decide +kernel
theorem dX12_measure_50 : decode cX12_measure 50 = .ok (.iload_n 2, 1) := by decide +kernel
theorem dX12_measure_51 : decode cX12_measure 51 = .ok (.iaload, 1) := by decide +kernel
theorem dX12_measure_52 : decode cX12_measure 52 = .ok (.imul, 1) := by decide +kernel
theorem dX12_measure_53 : decode cX12_measure 53 = .ok (.aload_n 0, 1) := by decide +kernel
theorem dX12_measure_54 : decode cX12_measure 54 = .ok (.getfield 23, 3) := by decide +kernel
theorem dX12_measure_57 : decode cX12_measure 57 = .ok (.iload_n 2, 1) := by decide +kernel
theorem dX12_measure_58 : decode cX12_measure 58 = .ok (.iaload, 1) := by decide +kernel
theorem dX12_measure_59 : decode cX12_measure 59 = .ok (.iadd, 1) := by decide +kernel
theorem dX12_measure_60 : decode cX12_measure 60 = .ok (.aload_n 0, 1) := by decide +kernel
theorem dX12_measure_61 : decode cX12_measure 61 = .ok (.getfield 26, 3) := by decide +kernel
theorem dX12_measure_64 : decode cX12_measure 64 = .ok (.iload_n 2, 1) := by decide +kernel
theorem dX12_measure_65 : decode cX12_measure 65 = .ok (.iaload, 1) := by decide +kernel
theorem dX12_measure_66 : decode cX12_measure 66 = .ok (.iastore, 1) := by decide +kernel
theorem dX12_measure_67 : decode cX12_measure 67 = .ok (.aload_n 0, 1) := by decide +kernel
theorem dX12_measure_68 : decode cX12_measure 68 = .ok (.getfield 50, 3) := by decide +kernel
theorem dX12_measure_71 : decode cX12_measure 71 = .ok (.bipush 8, 2) := by decide +kernel
theorem dX12_measure_73 : decode cX12_measure 73 = .ok (.aload_n 0, 1) := by decide +kernel
theorem dX12_measure_74 : decode cX12_measure 74 = .ok (.getfield 23, 3) := by decide +kernel
theorem dX12_measure_77 : decode cX12_measure 77 = .ok (.iload_n 2, 1) := by decide +kernel
theorem dX12_measure_78 : decode cX12_measure 78 = .ok (.iaload, 1) := by decide +kernel
theorem dX12_measure_79 : decode cX12_measure 79 = .ok (.imul, 1) := by decide +kernel
theorem dX12_measure_80 : decode cX12_measure 80 = .ok (.aload_n 0, 1) := by decide +kernel
theorem dX12_measure_81 : decode cX12_measure 81 = .ok (.getfield 20, 3) := by decide +kernel
theorem dX12_measure_84 : decode cX12_measure 84 = .ok (.iload_n 2, 1) := by decide +kernel
theorem dX12_measure_85 : decode cX12_measure 85 = .ok (.iaload, 1) := by decide +kernel
theorem dX12_measure_86 : decode cX12_measure 86 = .ok (.iadd, 1) := by decide +kernel
theorem dX12_measure_87 : decode cX12_measure 87 = .ok (.aload_n 0, 1) := by decide +kernel
theorem dX12_measure_88 : decode cX12_measure 88 = .ok (.getfield 26, 3) := by decide +kernel
theorem dX12_measure_91 : decode cX12_measure 91 = .ok (.iload_n 2, 1) := by decide +kernel
theorem dX12_measure_92 : decode cX12_measure 92 = .ok (.iaload, 1) := by decide +kernel
theorem dX12_measure_93 : decode cX12_measure 93 = .ok (.iastore, 1) := by decide +kernel
theorem dX12_measure_94 : decode cX12_measure 94 = .ok (.iinc 2 1, 3) := by decide +kernel
theorem dX12_measure_97 : decode cX12_measure 97 = .ok (.goto (-72), 3) := by decide +kernel
theorem dX12_measure_100 : decode cX12_measure 100 = .ok (.iconst 0, 1) := by decide +kernel
theorem dX12_measure_101 : decode cX12_measure 101 = .ok (.istore_n 2, 1) := by decide +kernel
theorem dX12_measure_102 : decode cX12_measure 102 = .ok (.iload_n 2, 1) := by decide +kernel
theorem dX12_measure_103 : decode cX12_measure 103 = .ok (.bipush 64, 2) := by decide +kernel
theorem dX12_measure_105 : decode cX12_measure 105 = .ok (.if_icmp .ge 36, 3) := by decide +kernel
theorem dX12_measure_108 : decode cX12_measure 108 = .ok (.aload_n 0, 1) := by decide +kernel
theorem dX12_measure_109 : decode cX12_measure 109 = .ok (.getfield 53, 3) := by decide +kernel
theorem dX12_measure_112 : decode cX12_measure 112 = .ok (.iload_n 2, 1) := by decide +kernel
theorem dX12_measure_113 : decode cX12_measure 113 = .ok (.iload_n 2, 1) := by decide +kernel
theorem dX12_measure_114 : decode cX12_measure 114 = .ok (.bipush 8, 2) := by decide +kernel
theorem dX12_measure_116 : decode cX12_measure 116 = .ok (.idiv, 1) := by decide +kernel
theorem dX12_measure_117 : decode cX12_measure 117 = .ok (.iload_n 2, 1) := by decide +kernel
theorem dX12_measure_118 : decode cX12_measure 118 = .ok (.bipush 8, 2) := by decide +kernel
theorem dX12_measure_120 : decode cX12_measure 120 = .ok (.irem, 1) := by decide +kernel
theorem dX12_measure_121 : decode cX12_measure 121 = .ok (.if_icmp .ne 7, 3) := by decide +kernel
theorem dX12_measure_124 : decode cX12_measure 124 = .ok (.iconst 0, 1) := by decide +kernel
theorem dX12_measure_125 : decode cX12_measure 125 = .ok (.goto 9, 3) := by decide +kernel
theorem dX12_measure_128 : decode cX12_measure 128 = .ok (.aload_n 0, 1) := by decide +kernel
theorem dX12_measure_129 : decode cX12_measure 129 = .ok (.getfield 50, 3) := by decide +kernel
theorem dX12_measure_132 : decode cX12_measure 132 = .ok (.iload_n 2, 1) := by decide +kernel
theorem dX12_measure_133 : decode cX12_measure 133 = .ok (.iaload, 1) := by decide +kernel
theorem dX12_measure_134 : decode cX12_measure 134 = .ok (.iastore, 1) := by decide +kernel
theorem dX12_measure_135 : decode cX12_measure 135 = .ok (.iinc 2 1, 3) := by decide +kernel
theorem dX12_measure_138 : decode cX12_measure 138 = .ok (.goto (-36), 3) := by decide +kernel
theorem dX12_measure_141 : decode cX12_measure 141 = .ok (.iconst 0, 1) := by decide +kernel
theorem dX12_measure_142 : decode cX12_measure 142 = .ok (.istore_n 2, 1) := by decide +kernel
theorem dX12_measure_143 : decode cX12_measure 143 = .ok (.iload_n 2, 1) := by decide +kernel
theorem dX12_measure_144 : decode cX12_measure 144 = .ok (.bipush 8, 2) := by decide +kernel
theorem dX12_measure_146 : decode cX12_measure 146 = .ok (.if_icmp .ge 82, 3) := by decide +kernel
theorem dX12_measure_149 : decode cX12_measure 149 = .ok (.iconst 0, 1) := by decide +kernel
theorem dX12_measure_150 : decode cX12_measure 150 = .ok (.istore_n 3, 1) := by decide +kernel
theorem dX12_measure_151 : decode cX12_measure 151 = .ok (.iload_n 3, 1) := by decide +kernel
theorem dX12_measure_152 : decode cX12_measure 152 = .ok (.bipush 64, 2) := by decide +kernel
theorem dX12_measure_154 : decode cX12_measure 154 = .ok (.if_icmp .ge 68, 3) := by decide +kernel
theorem dX12_measure_157 : decode cX12_measure 157 = .ok (.aload_n 0, 1) := by decide +kernel
theorem dX12_measure_158 : decode cX12_measure 158 = .ok (.getfield 53, 3) := by decide +kernel
theorem dX12_measure_161 : decode cX12_measure 161 = .ok (.bipush 8, 2) := by decide +kernel
theorem dX12_measure_163 : decode cX12_measure 163 = .ok (.iload_n 3, 1) := by decide +kernel
theorem dX12_measure_164 : decode cX12_measure 164 = .ok (.bipush 8, 2) := by decide +kernel
theorem dX12_measure_166 : decode cX12_measure 166 = .ok (.idiv, 1) := by decide +kernel
theorem dX12_measure_167 : decode cX12_measure 167 = .ok (.imul, 1) := by decide +kernel
theorem dX12_measure_168 : decode cX12_measure 168 = .ok (.iload_n 2, 1) := by decide +kernel
theorem dX12_measure_169 : decode cX12_measure 169 = .ok (.iadd, 1) := by decide +kernel
theorem dX12_measure_170 : decode cX12_measure 170 = .ok (.iaload, 1) := by decide +kernel
theorem dX12_measure_171 : decode cX12_measure 171 = .ok (.aload_n 0, 1) := by decide +kernel
theorem dX12_measure_172 : decode cX12_measure 172 = .ok (.getfield 53, 3) := by decide +kernel
theorem dX12_measure_175 : decode cX12_measure 175 = .ok (.bipush 8, 2) := by decide +kernel
theorem dX12_measure_177 : decode cX12_measure 177 = .ok (.iload_n 2, 1) := by decide +kernel
theorem dX12_measure_178 : decode cX12_measure 178 = .ok (.imul, 1) := by decide +kernel
theorem dX12_measure_179 : decode cX12_measure 179 = .ok (.iload_n 3, 1) := by decide +kernel
theorem dX12_measure_180 : decode cX12_measure 180 = .ok (.bipush 8, 2) := by decide +kernel
theorem dX12_measure_182 : decode cX12_measure 182 = .ok (.irem, 1) := by decide +kernel
theorem dX12_measure_183 : decode cX12_measure 183 = .ok (.iadd, 1) := by decide +kernel
theorem dX12_measure_184 : decode cX12_measure 184 = .ok (.iaload, 1) := by decide +kernel
theorem dX12_measure_185 : decode cX12_measure 185 = .ok (.iadd, 1) := by decide +kernel
theorem dX12_measure_186 : decode cX12_measure 186 = .ok (.istore 4, 2) := by decide +kernel
theorem dX12_measure_188 : decode cX12_measure 188 = .ok (.aload_n 0, 1) := by decide +kernel
theorem dX12_measure_189 : decode cX12_measure 189 = .ok (.getfield 53, 3) := by decide +kernel
theorem dX12_measure_192 : decode cX12_measure 192 = .ok (.iload_n 3, 1) := by decide +kernel
theorem dX12_measure_193 : decode cX12_measure 193 = .ok (.iload 4, 2) := by decide +kernel
theorem dX12_measure_195 : decode cX12_measure 195 = .ok (.aload_n 0, 1) := by decide +kernel
theorem dX12_measure_196 : decode cX12_measure 196 = .ok (.getfield 53, 3) := by decide +kernel
theorem dX12_measure_199 : decode cX12_measure 199 = .ok (.iload_n 3, 1) := by decide +kernel
theorem dX12_measure_200 : decode cX12_measure 200 = .ok (.iaload, 1) := by decide +kernel
theorem dX12_measure_201 : decode cX12_measure 201 = .ok (.if_icmp .ge 8, 3) := by decide +kernel
theorem dX12_measure_204 : decode cX12_measure 204 = .ok (.iload 4, 2) := by decide +kernel
theorem dX12_measure_206 : decode cX12_measure 206 = .ok (.goto 9, 3) := by decide +kernel
theorem dX12_measure_209 : decode cX12_measure 209 = .ok (.aload_n 0, 1) := by decide +kernel
theorem dX12_measure_210 : decode cX12_measure 210 = .ok (.getfield 53, 3) := by decide +kernel
theorem dX12_measure_213 : decode cX12_measure 213 = .ok (.iload_n 3, 1) := by decide +kernel
theorem dX12_measure_214 : decode cX12_measure 214 = .ok (.iaload, 1) := by decide +kernel
theorem dX12_measure_215 : decode cX12_measure 215 = .ok (.iastore, 1) := by decide +kernel
theorem dX12_measure_216 : decode cX12_measure 216 = .ok (.iinc 3 1, 3) := by decide +kernel
theorem dX12_measure_219 : decode cX12_measure 219 = .ok (.goto (-68), 3) := by decide +kernel
theorem dX12_measure_222 : decode cX12_measure 222 = .ok (.iinc 2 1, 3) := by decide +kernel
theorem dX12_measure_225 : decode cX12_measure 225 = .ok (.goto (-82), 3) := by decide +kernel
theorem dX12_measure_228 : decode cX12_measure 228 = .ok (.return_, 1) := by decide +kernel
theorem dX12_far_0 : decode cX12_far 0 = .ok (.aload_n 0, 1) := by decide +kernel
theorem dX12_far_1 : decode cX12_far 1 = .ok (.iload_n 1, 1) := by decide +kernel
theorem dX12_far_2 : decode cX12_far 2 = .ok (.invokevirtual 145, 3) := by decide +kernel
theorem dX12_far_5 : decode cX12_far 5 = .ok (.ifCond .eq 11, 3) := by decide +kernel
theorem dX12_far_8 : decode cX12_far 8 = .ok (.aload_n 0, 1) := by decide +kernel
theorem dX12_far_9 : decode cX12_far 9 = .ok (.iload_n 2, 1) := by decide +kernel
theorem dX12_far_10 : decode cX12_far 10 = .ok (.invokevirtual 145, 3) := by decide +kernel
theorem dX12_far_13 : decode cX12_far 13 = .ok (.ifCond .ne 5, 3) := by decide +kernel
theorem dX12_far_16 : decode cX12_far 16 = .ok (.iconst (-1), 1) := by decide +kernel
theorem dX12_far_17 : decode cX12_far 17 = .ok (.ireturn, 1) := by decide +kernel
theorem dX12_far_18 : decode cX12_far 18 = .ok (.aload_n 0, 1) := by decide +kernel
theorem dX12_far_19 : decode cX12_far 19 = .ok (.getfield 53, 3) := by decide +kernel
theorem dX12_far_22 : decode cX12_far 22 = .ok (.bipush 8, 2) := by decide +kernel
theorem dX12_far_24 : decode cX12_far 24 = .ok (.iload_n 1, 1) := by decide +kernel
theorem dX12_far_25 : decode cX12_far 25 = .ok (.imul, 1) := by decide +kernel
theorem dX12_far_26 : decode cX12_far 26 = .ok (.iload_n 2, 1) := by decide +kernel
theorem dX12_far_27 : decode cX12_far 27 = .ok (.iadd, 1) := by decide +kernel
theorem dX12_far_28 : decode cX12_far 28 = .ok (.iaload, 1) := by decide +kernel
theorem dX12_far_29 : decode cX12_far 29 = .ok (.sipush 10000, 3) := by decide +kernel
theorem dX12_far_32 : decode cX12_far 32 = .ok (.if_icmp .lt 8, 3) := by decide +kernel
theorem dX12_far_35 : decode cX12_far 35 = .ok (.bipush (-4), 2) := by decide +kernel
theorem dX12_far_37 : decode cX12_far 37 = .ok (.goto 14, 3) := by decide +kernel
theorem dX12_far_40 : decode cX12_far 40 = .ok (.aload_n 0, 1) := by decide +kernel
theorem dX12_far_41 : decode cX12_far 41 = .ok (.getfield 53, 3) := by decide +kernel
theorem dX12_far_44 : decode cX12_far 44 = .ok (.bipush 8, 2) := by decide +kernel
theorem dX12_far_46 : decode cX12_far 46 = .ok (.iload_n 1, 1) := by decide +kernel
theorem dX12_far_47 : decode cX12_far 47 = .ok (.imul, 1) := by decide +kernel
theorem dX12_far_48 : decode cX12_far 48 = .ok (.iload_n 2, 1) := by decide +kernel
theorem dX12_far_49 : decode cX12_far 49 = .ok (.iadd, 1) := by decide +kernel
theorem dX12_far_50 : decode cX12_far 50 = .ok (.iaload, 1) := by decide +kernel
theorem dX12_far_51 : decode cX12_far 51 = .ok (.ireturn, 1) := by decide +kernel
theorem dX12_street_0 : decode cX12_street 0 = .ok (.aload_n 0, 1) := by decide +kernel
theorem dX12_street_1 : decode cX12_street 1 = .ok (.iload_n 1, 1) := by decide +kernel
theorem dX12_street_2 : decode cX12_street 2 = .ok (.invokevirtual 145, 3) := by decide +kernel
theorem dX12_street_5 : decode cX12_street 5 = .ok (.ifCond .eq 11, 3) := by decide +kernel
theorem dX12_street_8 : decode cX12_street 8 = .ok (.aload_n 0, 1) := by decide +kernel
theorem dX12_street_9 : decode cX12_street 9 = .ok (.iload_n 2, 1) := by decide +kernel
theorem dX12_street_10 : decode cX12_street 10 = .ok (.invokevirtual 145, 3) := by decide +kernel
theorem dX12_street_13 : decode cX12_street 13 = .ok (.ifCond .ne 5, 3) := by decide +kernel
theorem dX12_street_16 : decode cX12_street 16 = .ok (.iconst (-1), 1) := by decide +kernel
theorem dX12_street_17 : decode cX12_street 17 = .ok (.ireturn, 1) := by decide +kernel
theorem dX12_street_18 : decode cX12_street 18 = .ok (.aload_n 0, 1) := by decide +kernel
theorem dX12_street_19 : decode cX12_street 19 = .ok (.getfield 50, 3) := by decide +kernel
theorem dX12_street_22 : decode cX12_street 22 = .ok (.bipush 8, 2) := by decide +kernel
theorem dX12_street_24 : decode cX12_street 24 = .ok (.iload_n 1, 1) := by decide +kernel
theorem dX12_street_25 : decode cX12_street 25 = .ok (.imul, 1) := by decide +kernel
theorem dX12_street_26 : decode cX12_street 26 = .ok (.iload_n 2, 1) := by decide +kernel
theorem dX12_street_27 : decode cX12_street 27 = .ok (.iadd, 1) := by decide +kernel
theorem dX12_street_28 : decode cX12_street 28 = .ok (.iaload, 1) := by decide +kernel
theorem dX12_street_29 : decode cX12_street 29 = .ok (.sipush 10000, 3) := by decide +kernel
theorem dX12_street_32 : decode cX12_street 32 = .ok (.if_icmp .ne 8, 3) := by decide +kernel
theorem dX12_street_35 : decode cX12_street 35 = .ok (.bipush (-4), 2) := by decide +kernel
theorem dX12_street_37 : decode cX12_street 37 = .ok (.goto 14, 3) := by decide +kernel
theorem dX12_street_40 : decode cX12_street 40 = .ok (.aload_n 0, 1) := by decide +kernel
theorem dX12_street_41 : decode cX12_street 41 = .ok (.getfield 50, 3) := by decide +kernel
theorem dX12_street_44 : decode cX12_street 44 = .ok (.bipush 8, 2) := by decide +kernel
theorem dX12_street_46 : decode cX12_street 46 = .ok (.iload_n 1, 1) := by decide +kernel
theorem dX12_street_47 : decode cX12_street 47 = .ok (.imul, 1) := by decide +kernel
theorem dX12_street_48 : decode cX12_street 48 = .ok (.iload_n 2, 1) := by decide +kernel
theorem dX12_street_49 : decode cX12_street 49 = .ok (.iadd, 1) := by decide +kernel
theorem dX12_street_50 : decode cX12_street 50 = .ok (.iaload, 1) := by decide +kernel
theorem dX12_street_51 : decode cX12_street 51 = .ok (.ireturn, 1) := by decide +kernel
theorem dX12_sign_0 : decode cX12_sign 0 = .ok (.aload_n 0, 1) := by decide +kernel
theorem dX12_sign_1 : decode cX12_sign 1 = .ok (.iload_n 1, 1) := by decide +kernel
theorem dX12_sign_2 : decode cX12_sign 2 = .ok (.invokevirtual 149, 3) := by decide +kernel
theorem dX12_sign_5 : decode cX12_sign 5 = .ok (.ifCond .eq 27, 3) := by decide +kernel
theorem dX12_sign_8 : decode cX12_sign 8 = .ok (.iload_n 2, 1) := by decide +kernel
theorem dX12_sign_9 : decode cX12_sign 9 = .ok (.iconst 0, 1) := by decide +kernel
theorem dX12_sign_10 : decode cX12_sign 10 = .ok (.iconst 2, 1) := by decide +kernel
theorem dX12_sign_11 : decode cX12_sign 11 = .ok (.invokestatic 94, 3) := by decide +kernel
theorem dX12_sign_14 : decode cX12_sign 14 = .ok (.ifCond .eq 18, 3) := by decide +kernel
theorem dX12_sign_17 : decode cX12_sign 17 = .ok (.aload_n 0, 1) := by decide +kernel
theorem dX12_sign_18 : decode cX12_sign 18 = .ok (.getfield 47, 3) := by decide +kernel
theorem dX12_sign_21 : decode cX12_sign 21 = .ok (.iconst 1, 1) := by decide +kernel
theorem dX12_sign_22 : decode cX12_sign 22 = .ok (.iconst 3, 1) := by decide +kernel
theorem dX12_sign_23 : decode cX12_sign 23 = .ok (.iload_n 1, 1) := by decide +kernel
theorem dX12_sign_24 : decode cX12_sign 24 = .ok (.imul, 1) := by decide +kernel
theorem dX12_sign_25 : decode cX12_sign 25 = .ok (.iadd, 1) := by decide +kernel
theorem dX12_sign_26 : decode cX12_sign 26 = .ok (.iload_n 2, 1) := by decide +kernel
theorem dX12_sign_27 : decode cX12_sign 27 = .ok (.iadd, 1) := by decide +kernel
theorem dX12_sign_28 : decode cX12_sign 28 = .ok (.iaload, 1) := by decide +kernel
theorem dX12_sign_29 : decode cX12_sign 29 = .ok (.goto 4, 3) := by decide +kernel
theorem dX12_sign_32 : decode cX12_sign 32 = .ok (.iconst (-1), 1) := by decide +kernel
theorem dX12_sign_33 : decode cX12_sign 33 = .ok (.ireturn, 1) := by decide +kernel
theorem dX12_walker_0 : decode cX12_walker 0 = .ok (.aload_n 0, 1) := by decide +kernel
theorem dX12_walker_1 : decode cX12_walker 1 = .ok (.iload_n 1, 1) := by decide +kernel
theorem dX12_walker_2 : decode cX12_walker 2 = .ok (.invokevirtual 152, 3) := by decide +kernel
theorem dX12_walker_5 : decode cX12_walker 5 = .ok (.ifCond .eq 12, 3) := by decide +kernel
theorem dX12_walker_8 : decode cX12_walker 8 = .ok (.iload_n 2, 1) := by decide +kernel
theorem dX12_walker_9 : decode cX12_walker 9 = .ok (.iconst 0, 1) := by decide +kernel
theorem dX12_walker_10 : decode cX12_walker 10 = .ok (.iconst 3, 1) := by decide +kernel
theorem dX12_walker_11 : decode cX12_walker 11 = .ok (.invokestatic 94, 3) := by decide +kernel
theorem dX12_walker_14 : decode cX12_walker 14 = .ok (.ifCond .ne 5, 3) := by decide +kernel
theorem dX12_walker_17 : decode cX12_walker 17 = .ok (.iconst (-1), 1) := by decide +kernel
theorem dX12_walker_18 : decode cX12_walker 18 = .ok (.ireturn, 1) := by decide +kernel
theorem dX12_walker_19 : decode cX12_walker 19 = .ok (.iload_n 2, 1) := by decide +kernel
theorem dX12_walker_20 : decode cX12_walker 20 = .ok (.ifCond .ne 12, 3) := by decide +kernel
theorem dX12_walker_23 : decode cX12_walker 23 = .ok (.aload_n 0, 1) := by decide +kernel
theorem dX12_walker_24 : decode cX12_walker 24 = .ok (.getfield 32, 3) := by decide +kernel
theorem dX12_walker_27 : decode cX12_walker 27 = .ok (.iload_n 1, 1) := by decide +kernel
theorem dX12_walker_28 : decode cX12_walker 28 = .ok (.iaload, 1) := by decide +kernel
theorem dX12_walker_29 : decode cX12_walker 29 = .ok (.goto 40, 3) := by decide +kernel
theorem dX12_walker_32 : decode cX12_walker 32 = .ok (.iload_n 2, 1) := by decide +kernel
theorem dX12_walker_33 : decode cX12_walker 33 = .ok (.iconst 1, 1) := by decide +kernel
theorem dX12_walker_34 : decode cX12_walker 34 = .ok (.if_icmp .ne 12, 3) := by decide +kernel
theorem dX12_walker_37 : decode cX12_walker 37 = .ok (.aload_n 0, 1) := by decide +kernel
theorem dX12_walker_38 : decode cX12_walker 38 = .ok (.getfield 35, 3) := by decide +kernel
theorem dX12_walker_41 : decode cX12_walker 41 = .ok (.iload_n 1, 1) := by decide +kernel
theorem dX12_walker_42 : decode cX12_walker 42 = .ok (.iaload, 1) := by decide +kernel
theorem dX12_walker_43 : decode cX12_walker 43 = .ok (.goto 26, 3) := by decide +kernel
theorem dX12_walker_46 : decode cX12_walker 46 = .ok (.iload_n 2, 1) := by decide +kernel
theorem dX12_walker_47 : decode cX12_walker 47 = .ok (.iconst 2, 1) := by decide +kernel
theorem dX12_walker_48 : decode cX12_walker 48 = .ok (.if_icmp .ne 12, 3) := by decide +kernel
theorem dX12_walker_51 : decode cX12_walker 51 = .ok (.aload_n 0, 1) := by decide +kernel
theorem dX12_walker_52 : decode cX12_walker 52 = .ok (.getfield 38, 3) := by decide +kernel
theorem dX12_walker_55 : decode cX12_walker 55 = .ok (.iload_n 1, 1) := by decide +kernel
theorem dX12_walker_56 : decode cX12_walker 56 = .ok (.iaload, 1) := by decide +kernel
theorem dX12_walker_57 : decode cX12_walker 57 = .ok (.goto 12, 3) := by decide +kernel
theorem dX12_walker_60 : decode cX12_walker 60 = .ok (.aload_n 0, 1) := by decide +kernel
theorem dX12_walker_61 : decode cX12_walker 61 = .ok (.getfield 47, 3) := by decide +kernel
theorem dX12_walker_64 : decode cX12_walker 64 = .ok (.bipush 28, 2) := by decide +kernel
theorem dX12_walker_66 : decode cX12_walker 66 = .ok (.iload_n 1, 1) := by decide +kernel
theorem dX12_walker_67 : decode cX12_walker 67 = .ok (.iadd, 1) := by decide +kernel
theorem dX12_walker_68 : decode cX12_walker 68 = .ok (.iaload, 1) := by decide +kernel
theorem dX12_walker_69 : decode cX12_walker 69 = .ok (.ireturn, 1) := by decide +kernel
theorem dX12_isOnWay_0 : decode cX12_isOnWay 0 = .ok (.aload_n 0, 1) := by decide +kernel
theorem dX12_isOnWay_1 : decode cX12_isOnWay 1 = .ok (.getfield 53, 3) := by decide +kernel
theorem dX12_isOnWay_4 : decode cX12_isOnWay 4 = .ok (.bipush 8, 2) := by decide +kernel
theorem dX12_isOnWay_6 : decode cX12_isOnWay 6 = .ok (.iload_n 1, 1) := by decide +kernel
theorem dX12_isOnWay_7 : decode cX12_isOnWay 7 = .ok (.imul, 1) := by decide +kernel
theorem dX12_isOnWay_8 : decode cX12_isOnWay 8 = .ok (.iload_n 3, 1) := by decide +kernel
theorem dX12_isOnWay_9 : decode cX12_isOnWay 9 = .ok (.iadd, 1) := by decide +kernel
theorem dX12_isOnWay_10 : decode cX12_isOnWay 10 = .ok (.iaload, 1) := by decide +kernel
theorem dX12_isOnWay_11 : decode cX12_isOnWay 11 = .ok (.sipush 10000, 3) := by decide +kernel
theorem dX12_isOnWay_14 : decode cX12_isOnWay 14 = .ok (.if_icmp .ge 61, 3) := by decide +kernel
theorem dX12_isOnWay_17 : decode cX12_isOnWay 17 = .ok (.aload_n 0, 1) := by decide +kernel
theorem dX12_isOnWay_18 : decode cX12_isOnWay 18 = .ok (.getfield 50, 3) := by decide +kernel
theorem dX12_isOnWay_21 : decode cX12_isOnWay 21 = .ok (.bipush 8, 2) := by decide +kernel
theorem dX12_isOnWay_23 : decode cX12_isOnWay 23 = .ok (.iload_n 1, 1) := by decide +kernel
theorem dX12_isOnWay_24 : decode cX12_isOnWay 24 = .ok (.imul, 1) := by decide +kernel
theorem dX12_isOnWay_25 : decode cX12_isOnWay 25 = .ok (.iload_n 2, 1) := by decide +kernel
theorem dX12_isOnWay_26 : decode cX12_isOnWay 26 = .ok (.iadd, 1) := by decide +kernel
theorem dX12_isOnWay_27 : decode cX12_isOnWay 27 = .ok (.iaload, 1) := by decide +kernel
theorem dX12_isOnWay_28 : decode cX12_isOnWay 28 = .ok (.sipush 10000, 3) := by decide +kernel
theorem dX12_isOnWay_31 : decode cX12_isOnWay 31 = .ok (.if_icmp .ge 44, 3) := by decide +kernel
theorem dX12_isOnWay_34 : decode cX12_isOnWay 34 = .ok (.aload_n 0, 1) := by decide +kernel
theorem dX12_isOnWay_35 : decode cX12_isOnWay 35 = .ok (.getfield 50, 3) := by decide +kernel
theorem dX12_isOnWay_38 : decode cX12_isOnWay 38 = .ok (.bipush 8, 2) := by decide +kernel
theorem dX12_isOnWay_40 : decode cX12_isOnWay 40 = .ok (.iload_n 1, 1) := by decide +kernel
theorem dX12_isOnWay_41 : decode cX12_isOnWay 41 = .ok (.imul, 1) := by decide +kernel
theorem dX12_isOnWay_42 : decode cX12_isOnWay 42 = .ok (.iload_n 2, 1) := by decide +kernel
theorem dX12_isOnWay_43 : decode cX12_isOnWay 43 = .ok (.iadd, 1) := by decide +kernel
theorem dX12_isOnWay_44 : decode cX12_isOnWay 44 = .ok (.iaload, 1) := by decide +kernel
theorem dX12_isOnWay_45 : decode cX12_isOnWay 45 = .ok (.aload_n 0, 1) := by decide +kernel
theorem dX12_isOnWay_46 : decode cX12_isOnWay 46 = .ok (.getfield 53, 3) := by decide +kernel
theorem dX12_isOnWay_49 : decode cX12_isOnWay 49 = .ok (.bipush 8, 2) := by decide +kernel
theorem dX12_isOnWay_51 : decode cX12_isOnWay 51 = .ok (.iload_n 2, 1) := by decide +kernel
theorem dX12_isOnWay_52 : decode cX12_isOnWay 52 = .ok (.imul, 1) := by decide +kernel
theorem dX12_isOnWay_53 : decode cX12_isOnWay 53 = .ok (.iload_n 3, 1) := by decide +kernel
theorem dX12_isOnWay_54 : decode cX12_isOnWay 54 = .ok (.iadd, 1) := by decide +kernel
theorem dX12_isOnWay_55 : decode cX12_isOnWay 55 = .ok (.iaload, 1) := by decide +kernel
theorem dX12_isOnWay_56 : decode cX12_isOnWay 56 = .ok (.iadd, 1) := by decide +kernel
theorem dX12_isOnWay_57 : decode cX12_isOnWay 57 = .ok (.aload_n 0, 1) := by decide +kernel
theorem dX12_isOnWay_58 : decode cX12_isOnWay 58 = .ok (.getfield 53, 3) := by decide +kernel
theorem dX12_isOnWay_61 : decode cX12_isOnWay 61 = .ok (.bipush 8, 2) := by decide +kernel
theorem dX12_isOnWay_63 : decode cX12_isOnWay 63 = .ok (.iload_n 1, 1) := by decide +kernel
theorem dX12_isOnWay_64 : decode cX12_isOnWay 64 = .ok (.imul, 1) := by decide +kernel
theorem dX12_isOnWay_65 : decode cX12_isOnWay 65 = .ok (.iload_n 3, 1) := by decide +kernel
theorem dX12_isOnWay_66 : decode cX12_isOnWay 66 = .ok (.iadd, 1) := by decide +kernel
theorem dX12_isOnWay_67 : decode cX12_isOnWay 67 = .ok (.iaload, 1) := by decide +kernel
theorem dX12_isOnWay_68 : decode cX12_isOnWay 68 = .ok (.if_icmp .ne 7, 3) := by decide +kernel
theorem dX12_isOnWay_71 : decode cX12_isOnWay 71 = .ok (.iconst 1, 1) := by decide +kernel
theorem dX12_isOnWay_72 : decode cX12_isOnWay 72 = .ok (.goto 4, 3) := by decide +kernel
theorem dX12_isOnWay_75 : decode cX12_isOnWay 75 = .ok (.iconst 0, 1) := by decide +kernel
theorem dX12_isOnWay_76 : decode cX12_isOnWay 76 = .ok (.ireturn, 1) := by decide +kernel
theorem dX12_nativeStep_0 : decode cX12_nativeStep 0 = .ok (.iconst 0, 1) := by decide +kernel
theorem dX12_nativeStep_1 : decode cX12_nativeStep 1 = .ok (.istore_n 3, 1) := by decide +kernel
theorem dX12_nativeStep_2 : decode cX12_nativeStep 2 = .ok (.iload_n 3, 1) := by decide +kernel
theorem dX12_nativeStep_3 : decode cX12_nativeStep 3 = .ok (.aload_n 0, 1) := by decide +kernel
theorem dX12_nativeStep_4 : decode cX12_nativeStep 4 = .ok (.getfield 13, 3) := by decide +kernel
theorem dX12_nativeStep_7 : decode cX12_nativeStep 7 = .ok (.iconst 0, 1) := by decide +kernel
theorem dX12_nativeStep_8 : decode cX12_nativeStep 8 = .ok (.iaload, 1) := by decide +kernel
theorem dX12_nativeStep_9 : decode cX12_nativeStep 9 = .ok (.if_icmp .ge 21, 3) := by decide +kernel
theorem dX12_nativeStep_12 : decode cX12_nativeStep 12 = .ok (.aload_n 0, 1) := by decide +kernel
theorem dX12_nativeStep_13 : decode cX12_nativeStep 13 = .ok (.iload_n 1, 1) := by decide +kernel
theorem dX12_nativeStep_14 : decode cX12_nativeStep 14 = .ok (.iload_n 3, 1) := by decide +kernel
theorem dX12_nativeStep_15 : decode cX12_nativeStep 15 = .ok (.iload_n 2, 1) := by decide +kernel
theorem dX12_nativeStep_16 : decode cX12_nativeStep 16 = .ok (.invokevirtual 155, 3) := by decide +kernel
theorem dX12_nativeStep_19 : decode cX12_nativeStep 19 = .ok (.ifCond .eq 5, 3) := by decide +kernel
theorem dX12_nativeStep_22 : decode cX12_nativeStep 22 = .ok (.iload_n 3, 1) := by decide +kernel
theorem dX12_nativeStep_23 : decode cX12_nativeStep 23 = .ok (.ireturn, 1) := by decide +kernel
theorem dX12_nativeStep_24 : decode cX12_nativeStep 24 = .ok (.iinc 3 1, 3) := by decide +kernel
theorem dX12_nativeStep_27 : decode cX12_nativeStep 27 = .ok (.goto (-25), 3) := by decide +kernel
theorem dX12_nativeStep_30 : decode cX12_nativeStep 30 = .ok (.bipush (-4), 2) := by decide +kernel
theorem dX12_nativeStep_32 : decode cX12_nativeStep 32 = .ok (.ireturn, 1) := by decide +kernel
theorem dX12_onFrom_0 : decode cX12_onFrom 0 = .ok (.bipush (-4), 2) := by decide +kernel
theorem dX12_onFrom_2 : decode cX12_onFrom 2 = .ok (.istore 4, 2) := by decide +kernel
theorem dX12_onFrom_4 : decode cX12_onFrom 4 = .ok (.iconst 0, 1) := by decide +kernel
theorem dX12_onFrom_5 : decode cX12_onFrom 5 = .ok (.istore 5, 2) := by decide +kernel
theorem dX12_onFrom_7 : decode cX12_onFrom 7 = .ok (.iload 5, 2) := by decide +kernel
theorem dX12_onFrom_9 : decode cX12_onFrom 9 = .ok (.aload_n 0, 1) := by decide +kernel
theorem dX12_onFrom_10 : decode cX12_onFrom 10 = .ok (.getfield 13, 3) := by decide +kernel
theorem dX12_onFrom_13 : decode cX12_onFrom 13 = .ok (.iconst 0, 1) := by decide +kernel
theorem dX12_onFrom_14 : decode cX12_onFrom 14 = .ok (.iaload, 1) := by decide +kernel
theorem dX12_onFrom_15 : decode cX12_onFrom 15 = .ok (.if_icmp .ge 64, 3) := by decide +kernel
theorem dX12_onFrom_18 : decode cX12_onFrom 18 = .ok (.iload_n 3, 1) := by decide +kernel
theorem dX12_onFrom_19 : decode cX12_onFrom 19 = .ok (.ifCond .eq 8, 3) := by decide +kernel
theorem dX12_onFrom_22 : decode cX12_onFrom 22 = .ok (.iload 5, 2) := by decide +kernel
theorem dX12_onFrom_24 : decode cX12_onFrom 24 = .ok (.goto 14, 3) := by decide +kernel
theorem dX12_onFrom_27 : decode cX12_onFrom 27 = .ok (.aload_n 0, 1) := by decide +kernel
theorem dX12_onFrom_28 : decode cX12_onFrom 28 = .ok (.getfield 13, 3) := by decide +kernel
theorem dX12_onFrom_31 : decode cX12_onFrom 31 = .ok (.iconst 0, 1) := by decide +kernel
theorem dX12_onFrom_32 : decode cX12_onFrom 32 = .ok (.iaload, 1) := by decide +kernel
theorem dX12_onFrom_33 : decode cX12_onFrom 33 = .ok (.iconst 1, 1) := by decide +kernel
theorem dX12_onFrom_34 : decode cX12_onFrom 34 = .ok (.isub, 1) := by decide +kernel
theorem dX12_onFrom_35 : decode cX12_onFrom 35 = .ok (.iload 5, 2) := by decide +kernel
theorem dX12_onFrom_37 : decode cX12_onFrom 37 = .ok (.isub, 1) := by decide +kernel
theorem dX12_onFrom_38 : decode cX12_onFrom 38 = .ok (.istore 6, 2) := by decide +kernel
theorem dX12_onFrom_40 : decode cX12_onFrom 40 = .ok (.iload 6, 2) := by decide +kernel
theorem dX12_onFrom_42 : decode cX12_onFrom 42 = .ok (.iload_n 2, 1) := by decide +kernel
theorem dX12_onFrom_43 : decode cX12_onFrom 43 = .ok (.if_icmp .eq 26, 3) := by decide +kernel
theorem dX12_onFrom_46 : decode cX12_onFrom 46 = .ok (.aload_n 0, 1) := by decide +kernel
theorem dX12_onFrom_47 : decode cX12_onFrom 47 = .ok (.getfield 50, 3) := by decide +kernel
theorem dX12_onFrom_50 : decode cX12_onFrom 50 = .ok (.bipush 8, 2) := by decide +kernel
theorem dX12_onFrom_52 : decode cX12_onFrom 52 = .ok (.iload_n 1, 1) := by decide +kernel
theorem dX12_onFrom_53 : decode cX12_onFrom 53 = .ok (.imul, 1) := by decide +kernel
theorem dX12_onFrom_54 : decode cX12_onFrom 54 = .ok (.iload 6, 2) := by decide +kernel
theorem dX12_onFrom_56 : decode cX12_onFrom 56 = .ok (.iadd, 1) := by decide +kernel
theorem dX12_onFrom_57 : decode cX12_onFrom 57 = .ok (.iaload, 1) := by decide +kernel
theorem dX12_onFrom_58 : decode cX12_onFrom 58 = .ok (.sipush 10000, 3) := by decide +kernel
theorem dX12_onFrom_61 : decode cX12_onFrom 61 = .ok (.if_icmp .ge 8, 3) := by decide +kernel
theorem dX12_onFrom_64 : decode cX12_onFrom 64 = .ok (.iload 6, 2) := by decide +kernel
theorem dX12_onFrom_66 : decode cX12_onFrom 66 = .ok (.goto 5, 3) := by decide +kernel
theorem dX12_onFrom_69 : decode cX12_onFrom 69 = .ok (.iload 4, 2) := by decide +kernel
theorem dX12_onFrom_71 : decode cX12_onFrom 71 = .ok (.istore 4, 2) := by decide +kernel
theorem dX12_onFrom_73 : decode cX12_onFrom 73 = .ok (.iinc 5 1, 3) := by decide +kernel
theorem dX12_onFrom_76 : decode cX12_onFrom 76 = .ok (.goto (-69), 3) := by decide +kernel
theorem dX12_onFrom_79 : decode cX12_onFrom 79 = .ok (.iload 4, 2) := by decide +kernel
theorem dX12_onFrom_81 : decode cX12_onFrom 81 = .ok (.bipush (-4), 2) := by decide +kernel
theorem dX12_onFrom_83 : decode cX12_onFrom 83 = .ok (.if_icmp .ne 37, 3) := by decide +kernel
theorem dX12_onFrom_86 : decode cX12_onFrom 86 = .ok (.iload_n 2, 1) := by decide +kernel
theorem dX12_onFrom_87 : decode cX12_onFrom 87 = .ok (.iconst (-1), 1) := by decide +kernel
theorem dX12_onFrom_88 : decode cX12_onFrom 88 = .ok (.if_icmp .eq 32, 3) := by decide +kernel
theorem dX12_onFrom_91 : decode cX12_onFrom 91 = .ok (.aload_n 0, 1) := by decide +kernel
theorem dX12_onFrom_92 : decode cX12_onFrom 92 = .ok (.getfield 50, 3) := by decide +kernel
theorem dX12_onFrom_95 : decode cX12_onFrom 95 = .ok (.bipush 8, 2) := by decide +kernel
theorem dX12_onFrom_97 : decode cX12_onFrom 97 = .ok (.iload_n 1, 1) := by decide +kernel
theorem dX12_onFrom_98 : decode cX12_onFrom 98 = .ok (.imul, 1) := by decide +kernel
theorem dX12_onFrom_99 : decode cX12_onFrom 99 = .ok (.iload_n 2, 1) := by decide +kernel
theorem dX12_onFrom_100 : decode cX12_onFrom 100 = .ok (.ifCond .ge 7, 3) := by decide +kernel
theorem dX12_onFrom_103 : decode cX12_onFrom 103 = .ok (.iconst 0, 1) := by decide +kernel
theorem dX12_onFrom_104 : decode cX12_onFrom 104 = .ok (.goto 4, 3) := by decide +kernel
theorem dX12_onFrom_107 : decode cX12_onFrom 107 = .ok (.iload_n 2, 1) := by decide +kernel
theorem dX12_onFrom_108 : decode cX12_onFrom 108 = .ok (.iadd, 1) := by decide +kernel
theorem dX12_onFrom_109 : decode cX12_onFrom 109 = .ok (.iaload, 1) := by decide +kernel
theorem dX12_onFrom_110 : decode cX12_onFrom 110 = .ok (.sipush 10000, 3) := by decide +kernel
theorem dX12_onFrom_113 : decode cX12_onFrom 113 = .ok (.if_icmp .ge 7, 3) := by decide +kernel
theorem dX12_onFrom_116 : decode cX12_onFrom 116 = .ok (.iload_n 2, 1) := by decide +kernel
theorem dX12_onFrom_117 : decode cX12_onFrom 117 = .ok (.goto 5, 3) := by decide +kernel
theorem dX12_onFrom_120 : decode cX12_onFrom 120 = .ok (.iload 4, 2) := by decide +kernel
theorem dX12_onFrom_122 : decode cX12_onFrom 122 = .ok (.ireturn, 1) := by decide +kernel
theorem dX12_strangerStep_0 : decode cX12_strangerStep 0 = .ok (.bipush (-4), 2) := by decide +kernel
theorem dX12_strangerStep_2 : decode cX12_strangerStep 2 = .ok (.istore 5, 2) := by decide +kernel
theorem dX12_strangerStep_4 : decode cX12_strangerStep 4 = .ok (.iconst 0, 1) := by decide +kernel
theorem dX12_strangerStep_5 : decode cX12_strangerStep 5 = .ok (.istore 6, 2) := by decide +kernel
theorem dX12_strangerStep_7 : decode cX12_strangerStep 7 = .ok (.iload 6, 2) := by decide +kernel
theorem dX12_strangerStep_9 : decode cX12_strangerStep 9 = .ok (.aload_n 0, 1) := by decide +kernel
theorem dX12_strangerStep_10 : decode cX12_strangerStep 10 = .ok (.getfield 47, 3) := by decide +kernel
theorem dX12_strangerStep_13 : decode cX12_strangerStep 13 = .ok (.iload_n 1, 1) := by decide +kernel
theorem dX12_strangerStep_14 : decode cX12_strangerStep 14 = .ok (.iconst 0, 1) := by decide +kernel
theorem dX12_strangerStep_15 : decode cX12_strangerStep 15 = .ok (.iadd, 1) := by decide +kernel
theorem dX12_strangerStep_16 : decode cX12_strangerStep 16 = .ok (.iaload, 1) := by decide +kernel
theorem dX12_strangerStep_17 : decode cX12_strangerStep 17 = .ok (.if_icmp .ge 60, 3) := by decide +kernel
theorem dX12_strangerStep_20 : decode cX12_strangerStep 20 = .ok (.iload_n 1, 1) := by decide +kernel
theorem dX12_strangerStep_21 : decode cX12_strangerStep 21 = .ok (.iconst 1, 1) := by decide +kernel
theorem dX12_strangerStep_22 : decode cX12_strangerStep 22 = .ok (.iadd, 1) := by decide +kernel
theorem dX12_strangerStep_23 : decode cX12_strangerStep 23 = .ok (.iconst 3, 1) := by decide +kernel
theorem dX12_strangerStep_24 : decode cX12_strangerStep 24 = .ok (.iload 6, 2) := by decide +kernel
theorem dX12_strangerStep_26 : decode cX12_strangerStep 26 = .ok (.imul, 1) := by decide +kernel
theorem dX12_strangerStep_27 : decode cX12_strangerStep 27 = .ok (.iadd, 1) := by decide +kernel
theorem dX12_strangerStep_28 : decode cX12_strangerStep 28 = .ok (.istore 7, 2) := by decide +kernel
theorem dX12_strangerStep_30 : decode cX12_strangerStep 30 = .ok (.aload_n 0, 1) := by decide +kernel
theorem dX12_strangerStep_31 : decode cX12_strangerStep 31 = .ok (.getfield 47, 3) := by decide +kernel
theorem dX12_strangerStep_34 : decode cX12_strangerStep 34 = .ok (.iload 7, 2) := by decide +kernel
theorem dX12_strangerStep_36 : decode cX12_strangerStep 36 = .ok (.iaload, 1) := by decide +kernel
theorem dX12_strangerStep_37 : decode cX12_strangerStep 37 = .ok (.iload_n 2, 1) := by decide +kernel
theorem dX12_strangerStep_38 : decode cX12_strangerStep 38 = .ok (.if_icmp .ne 29, 3) := by decide +kernel
theorem dX12_strangerStep_41 : decode cX12_strangerStep 41 = .ok (.aload_n 0, 1) := by decide +kernel
theorem dX12_strangerStep_42 : decode cX12_strangerStep 42 = .ok (.getfield 47, 3) := by decide +kernel
theorem dX12_strangerStep_45 : decode cX12_strangerStep 45 = .ok (.iload 7, 2) := by decide +kernel
theorem dX12_strangerStep_47 : decode cX12_strangerStep 47 = .ok (.iconst 1, 1) := by decide +kernel
theorem dX12_strangerStep_48 : decode cX12_strangerStep 48 = .ok (.iadd, 1) := by decide +kernel
theorem dX12_strangerStep_49 : decode cX12_strangerStep 49 = .ok (.iaload, 1) := by decide +kernel
theorem dX12_strangerStep_50 : decode cX12_strangerStep 50 = .ok (.iload 4, 2) := by decide +kernel
theorem dX12_strangerStep_52 : decode cX12_strangerStep 52 = .ok (.if_icmp .ne 15, 3) := by decide +kernel
theorem dX12_strangerStep_55 : decode cX12_strangerStep 55 = .ok (.aload_n 0, 1) := by decide +kernel
theorem dX12_strangerStep_56 : decode cX12_strangerStep 56 = .ok (.getfield 47, 3) := by decide +kernel
theorem dX12_strangerStep_59 : decode cX12_strangerStep 59 = .ok (.iload 7, 2) := by decide +kernel
theorem dX12_strangerStep_61 : decode cX12_strangerStep 61 = .ok (.iconst 2, 1) := by decide +kernel
theorem dX12_strangerStep_62 : decode cX12_strangerStep 62 = .ok (.iadd, 1) := by decide +kernel
theorem dX12_strangerStep_63 : decode cX12_strangerStep 63 = .ok (.iaload, 1) := by decide +kernel
theorem dX12_strangerStep_64 : decode cX12_strangerStep 64 = .ok (.goto 5, 3) := by decide +kernel
theorem dX12_strangerStep_67 : decode cX12_strangerStep 67 = .ok (.iload 5, 2) := by decide +kernel
theorem dX12_strangerStep_69 : decode cX12_strangerStep 69 = .ok (.istore 5, 2) := by decide +kernel
theorem dX12_strangerStep_71 : decode cX12_strangerStep 71 = .ok (.iinc 6 1, 3) := by decide +kernel
theorem dX12_strangerStep_74 : decode cX12_strangerStep 74 = .ok (.goto (-67), 3) := by decide +kernel
theorem dX12_strangerStep_77 : decode cX12_strangerStep 77 = .ok (.iload 5, 2) := by decide +kernel
theorem dX12_strangerStep_79 : decode cX12_strangerStep 79 = .ok (.bipush (-4), 2) := by decide +kernel
theorem dX12_strangerStep_81 : decode cX12_strangerStep 81 = .ok (.if_icmp .eq 26, 3) := by decide +kernel
theorem dX12_strangerStep_84 : decode cX12_strangerStep 84 = .ok (.aload_n 0, 1) := by decide +kernel
theorem dX12_strangerStep_85 : decode cX12_strangerStep 85 = .ok (.getfield 50, 3) := by decide +kernel
theorem dX12_strangerStep_88 : decode cX12_strangerStep 88 = .ok (.bipush 8, 2) := by decide +kernel
theorem dX12_strangerStep_90 : decode cX12_strangerStep 90 = .ok (.iload_n 2, 1) := by decide +kernel
theorem dX12_strangerStep_91 : decode cX12_strangerStep 91 = .ok (.imul, 1) := by decide +kernel
theorem dX12_strangerStep_92 : decode cX12_strangerStep 92 = .ok (.iload 5, 2) := by decide +kernel
theorem dX12_strangerStep_94 : decode cX12_strangerStep 94 = .ok (.iadd, 1) := by decide +kernel
theorem dX12_strangerStep_95 : decode cX12_strangerStep 95 = .ok (.iaload, 1) := by decide +kernel
theorem dX12_strangerStep_96 : decode cX12_strangerStep 96 = .ok (.sipush 10000, 3) := by decide +kernel
theorem dX12_strangerStep_99 : decode cX12_strangerStep 99 = .ok (.if_icmp .ge 8, 3) := by decide +kernel
theorem dX12_strangerStep_102 : decode cX12_strangerStep 102 = .ok (.iload 5, 2) := by decide +kernel
theorem dX12_strangerStep_104 : decode cX12_strangerStep 104 = .ok (.goto 10, 3) := by decide +kernel
theorem dX12_strangerStep_107 : decode cX12_strangerStep 107 = .ok (.aload_n 0, 1) := by decide +kernel
theorem dX12_strangerStep_108 : decode cX12_strangerStep 108 = .ok (.iload_n 2, 1) := by decide +kernel
theorem dX12_strangerStep_109 : decode cX12_strangerStep 109 = .ok (.iload_n 3, 1) := by decide +kernel
theorem dX12_strangerStep_110 : decode cX12_strangerStep 110 = .ok (.iconst 0, 1) := by decide +kernel
theorem dX12_strangerStep_111 : decode cX12_strangerStep 111 = .ok (.invokevirtual 158, 3) := by decide +kernel
theorem dX12_strangerStep_114 : decode cX12_strangerStep 114 = .ok (.ireturn, 1) := by decide +kernel
theorem dX12_nextOf_0 : decode cX12_nextOf 0 = .ok (.iload_n 2, 1) := by decide +kernel
theorem dX12_nextOf_1 : decode cX12_nextOf 1 = .ok (.lookupswitch 47 #[(1, 27), (3, 38)], 27) := by decide +kernel
theorem dX12_nextOf_28 : decode cX12_nextOf 28 = .ok (.aload_n 0, 1) := by decide +kernel
theorem dX12_nextOf_29 : decode cX12_nextOf 29 = .ok (.iload_n 1, 1) := by decide +kernel
theorem dX12_nextOf_30 : decode cX12_nextOf 30 = .ok (.iload_n 3, 1) := by decide +kernel
theorem dX12_nextOf_31 : decode cX12_nextOf 31 = .ok (.iload 4, 2) := by decide +kernel
theorem dX12_nextOf_33 : decode cX12_nextOf 33 = .ok (.iload 5, 2) := by decide +kernel
theorem dX12_nextOf_35 : decode cX12_nextOf 35 = .ok (.invokevirtual 162, 3) := by decide +kernel
theorem dX12_nextOf_38 : decode cX12_nextOf 38 = .ok (.ireturn, 1) := by decide +kernel
theorem dX12_nextOf_39 : decode cX12_nextOf 39 = .ok (.aload_n 0, 1) := by decide +kernel
theorem dX12_nextOf_40 : decode cX12_nextOf 40 = .ok (.iload_n 3, 1) := by decide +kernel
theorem dX12_nextOf_41 : decode cX12_nextOf 41 = .ok (.iload 4, 2) := by decide +kernel
theorem dX12_nextOf_43 : decode cX12_nextOf 43 = .ok (.iconst 1, 1) := by decide +kernel
theorem dX12_nextOf_44 : decode cX12_nextOf 44 = .ok (.invokevirtual 158, 3) := by decide +kernel
theorem dX12_nextOf_47 : decode cX12_nextOf 47 = .ok (.ireturn, 1) := by decide +kernel
theorem dX12_nextOf_48 : decode cX12_nextOf 48 = .ok (.aload_n 0, 1) := by decide +kernel
theorem dX12_nextOf_49 : decode cX12_nextOf 49 = .ok (.iload_n 3, 1) := by decide +kernel
theorem dX12_nextOf_50 : decode cX12_nextOf 50 = .ok (.iload 5, 2) := by decide +kernel
theorem dX12_nextOf_52 : decode cX12_nextOf 52 = .ok (.invokevirtual 166, 3) := by decide +kernel
theorem dX12_nextOf_55 : decode cX12_nextOf 55 = .ok (.ireturn, 1) := by decide +kernel
theorem dX12_go_0 : decode cX12_go 0 = .ok (.aload_n 0, 1) := by decide +kernel
theorem dX12_go_1 : decode cX12_go 1 = .ok (.iconst 0, 1) := by decide +kernel
theorem dX12_go_2 : decode cX12_go 2 = .ok (.putfield 170, 3) := by decide +kernel
theorem dX12_go_5 : decode cX12_go 5 = .ok (.aload_n 0, 1) := by decide +kernel
theorem dX12_go_6 : decode cX12_go 6 = .ok (.iconst 0, 1) := by decide +kernel
theorem dX12_go_7 : decode cX12_go 7 = .ok (.putfield 173, 3) := by decide +kernel
theorem dX12_go_10 : decode cX12_go 10 = .ok (.aload_n 0, 1) := by decide +kernel
theorem dX12_go_11 : decode cX12_go 11 = .ok (.iconst 0, 1) := by decide +kernel
theorem dX12_go_12 : decode cX12_go 12 = .ok (.putfield 176, 3) := by decide +kernel
theorem dX12_go_15 : decode cX12_go 15 = .ok (.aload_n 0, 1) := by decide +kernel
theorem dX12_go_16 : decode cX12_go 16 = .ok (.iconst 0, 1) := by decide +kernel
theorem dX12_go_17 : decode cX12_go 17 = .ok (.putfield 179, 3) := by decide +kernel
theorem dX12_go_20 : decode cX12_go 20 = .ok (.aload_n 0, 1) := by decide +kernel
theorem dX12_go_21 : decode cX12_go 21 = .ok (.getfield 56, 3) := by decide +kernel
theorem dX12_go_24 : decode cX12_go 24 = .ok (.iconst 0, 1) := by decide +kernel
theorem dX12_go_25 : decode cX12_go 25 = .ok (.iload_n 3, 1) := by decide +kernel
theorem dX12_go_26 : decode cX12_go 26 = .ok (.iastore, 1) := by decide +kernel
theorem dX12_go_27 : decode cX12_go 27 = .ok (.iconst (-1), 1) := by decide +kernel
theorem dX12_go_28 : decode cX12_go 28 = .ok (.istore 6, 2) := by decide +kernel
theorem dX12_go_30 : decode cX12_go 30 = .ok (.iload_n 3, 1) := by decide +kernel
theorem dX12_go_31 : decode cX12_go 31 = .ok (.istore 7, 2) := by decide +kernel
theorem dX12_go_33 : decode cX12_go 33 = .ok (.iconst 1, 1) := by decide +kernel
theorem dX12_go_34 : decode cX12_go 34 = .ok (.istore 8, 2) := by decide +kernel
theorem dX12_go_36 : decode cX12_go 36 = .ok (.iload 8, 2) := by decide +kernel
theorem dX12_go_38 : decode cX12_go 38 = .ok (.ifCond .eq 208, 3) := by decide +kernel
theorem dX12_go_41 : decode cX12_go 41 = .ok (.iload 7, 2) := by decide +kernel
theorem dX12_go_43 : decode cX12_go 43 = .ok (.iload 4, 2) := by decide +kernel
theorem dX12_go_45 : decode cX12_go 45 = .ok (.if_icmp .eq 201, 3) := by decide +kernel
theorem dX12_go_48 : decode cX12_go 48 = .ok (.aload_n 0, 1) := by decide +kernel
theorem dX12_go_49 : decode cX12_go 49 = .ok (.getfield 170, 3) := by decide +kernel
theorem dX12_go_52 : decode cX12_go 52 = .ok (.bipush 30, 2) := by decide +kernel
theorem dX12_go_54 : decode cX12_go 54 = .ok (.if_icmp .ge 192, 3) := by decide +kernel
theorem dX12_go_57 : decode cX12_go 57 = .ok (.aload_n 0, 1) := by decide +kernel
theorem dX12_go_58 : decode cX12_go 58 = .ok (.iload_n 1, 1) := by decide +kernel
theorem dX12_go_59 : decode cX12_go 59 = .ok (.iload_n 2, 1) := by decide +kernel
theorem dX12_go_60 : decode cX12_go 60 = .ok (.iload 7, 2) := by decide +kernel
theorem dX12_go_62 : decode cX12_go 62 = .ok (.iload 6, 2) := by decide +kernel
theorem dX12_go_64 : decode cX12_go 64 = .ok (.iload 4, 2) := by decide +kernel
theorem dX12_go_66 : decode cX12_go 66 = .ok (.invokevirtual 182, 3) := by decide +kernel
theorem dX12_go_69 : decode cX12_go 69 = .ok (.istore 9, 2) := by decide +kernel
theorem dX12_go_71 : decode cX12_go 71 = .ok (.iload 9, 2) := by decide +kernel
theorem dX12_go_73 : decode cX12_go 73 = .ok (.bipush (-4), 2) := by decide +kernel
theorem dX12_go_75 : decode cX12_go 75 = .ok (.if_icmp .eq 7, 3) := by decide +kernel
theorem dX12_go_78 : decode cX12_go 78 = .ok (.iconst 1, 1) := by decide +kernel
theorem dX12_go_79 : decode cX12_go 79 = .ok (.goto 4, 3) := by decide +kernel
theorem dX12_go_82 : decode cX12_go 82 = .ok (.iconst 0, 1) := by decide +kernel
theorem dX12_go_83 : decode cX12_go 83 = .ok (.istore 8, 2) := by decide +kernel
theorem dX12_go_85 : decode cX12_go 85 = .ok (.iload 8, 2) := by decide +kernel
theorem dX12_go_87 : decode cX12_go 87 = .ok (.ifCond .eq 156, 3) := by decide +kernel
theorem dX12_go_90 : decode cX12_go 90 = .ok (.aload_n 0, 1) := by decide +kernel
theorem dX12_go_91 : decode cX12_go 91 = .ok (.dup, 1) := by decide +kernel
theorem dX12_go_92 : decode cX12_go 92 = .ok (.getfield 173, 3) := by decide +kernel
theorem dX12_go_95 : decode cX12_go 95 = .ok (.aload_n 0, 1) := by decide +kernel
theorem dX12_go_96 : decode cX12_go 96 = .ok (.getfield 50, 3) := by decide +kernel
theorem dX12_go_99 : decode cX12_go 99 = .ok (.bipush 8, 2) := by decide +kernel
theorem dX12_go_101 : decode cX12_go 101 = .ok (.iload 7, 2) := by decide +kernel
theorem dX12_go_103 : decode cX12_go 103 = .ok (.imul, 1) := by decide +kernel
theorem dX12_go_104 : decode cX12_go 104 = .ok (.iload 9, 2) := by decide +kernel
theorem dX12_go_106 : decode cX12_go 106 = .ok (.iadd, 1) := by decide +kernel
theorem dX12_go_107 : decode cX12_go 107 = .ok (.iaload, 1) := by decide +kernel
theorem dX12_go_108 : decode cX12_go 108 = .ok (.iload_n 2, 1) := by decide +kernel
theorem dX12_go_109 : decode cX12_go 109 = .ok (.iconst 2, 1) := by decide +kernel
theorem dX12_go_110 : decode cX12_go 110 = .ok (.if_icmp .ne 7, 3) := by decide +kernel
theorem dX12_go_113 : decode cX12_go 113 = .ok (.iconst 1, 1) := by decide +kernel
theorem dX12_go_114 : decode cX12_go 114 = .ok (.goto 4, 3) := by decide +kernel
theorem dX12_go_117 : decode cX12_go 117 = .ok (.iconst 0, 1) := by decide +kernel
theorem dX12_go_118 : decode cX12_go 118 = .ok (.iadd, 1) := by decide +kernel
theorem dX12_go_119 : decode cX12_go 119 = .ok (.iadd, 1) := by decide +kernel
theorem dX12_go_120 : decode cX12_go 120 = .ok (.putfield 173, 3) := by decide +kernel
theorem dX12_go_123 : decode cX12_go 123 = .ok (.aload_n 0, 1) := by decide +kernel
theorem dX12_go_124 : decode cX12_go 124 = .ok (.dup, 1) := by decide +kernel
theorem dX12_go_125 : decode cX12_go 125 = .ok (.getfield 179, 3) := by decide +kernel
theorem dX12_go_128 : decode cX12_go 128 = .ok (.iload_n 2, 1) := by decide +kernel
theorem dX12_go_129 : decode cX12_go 129 = .ok (.iconst 2, 1) := by decide +kernel
theorem dX12_go_130 : decode cX12_go 130 = .ok (.if_icmp .ne 12, 3) := by decide +kernel
theorem dX12_go_133 : decode cX12_go 133 = .ok (.aload_n 0, 1) := by decide +kernel
theorem dX12_go_134 : decode cX12_go 134 = .ok (.getfield 41, 3) := by decide +kernel
theorem dX12_go_137 : decode cX12_go 137 = .ok (.iconst 2, 1) := by decide +kernel
theorem dX12_go_138 : decode cX12_go 138 = .ok (.iaload, 1) := by decide +kernel
theorem dX12_go_139 : decode cX12_go 139 = .ok (.goto 4, 3) := by decide +kernel
theorem dX12_go_142 : decode cX12_go 142 = .ok (.iconst 0, 1) := by decide +kernel
theorem dX12_go_143 : decode cX12_go 143 = .ok (.iadd, 1) := by decide +kernel
theorem dX12_go_144 : decode cX12_go 144 = .ok (.putfield 179, 3) := by decide +kernel
theorem dX12_go_147 : decode cX12_go 147 = .ok (.aload_n 0, 1) := by decide +kernel
theorem dX12_go_148 : decode cX12_go 148 = .ok (.iload 7, 2) := by decide +kernel
theorem dX12_go_150 : decode cX12_go 150 = .ok (.iload 9, 2) := by decide +kernel
theorem dX12_go_152 : decode cX12_go 152 = .ok (.iload 5, 2) := by decide +kernel
theorem dX12_go_154 : decode cX12_go 154 = .ok (.invokevirtual 155, 3) := by decide +kernel
theorem dX12_go_157 : decode cX12_go 157 = .ok (.ifCond .ne 57, 3) := by decide +kernel
theorem dX12_go_160 : decode cX12_go 160 = .ok (.aload_n 0, 1) := by decide +kernel
theorem dX12_go_161 : decode cX12_go 161 = .ok (.dup, 1) := by decide +kernel
theorem dX12_go_162 : decode cX12_go 162 = .ok (.getfield 176, 3) := by decide +kernel
theorem dX12_go_165 : decode cX12_go 165 = .ok (.iconst 1, 1) := by decide +kernel
theorem dX12_go_166 : decode cX12_go 166 = .ok (.iadd, 1) := by decide +kernel
theorem dX12_go_167 : decode cX12_go 167 = .ok (.putfield 176, 3) := by decide +kernel
theorem dX12_go_170 : decode cX12_go 170 = .ok (.aload_n 0, 1) := by decide +kernel
theorem dX12_go_171 : decode cX12_go 171 = .ok (.getfield 59, 3) := by decide +kernel
theorem dX12_go_174 : decode cX12_go 174 = .ok (.iload 7, 2) := by decide +kernel
theorem dX12_go_176 : decode cX12_go 176 = .ok (.dup2, 1) := by decide +kernel
theorem dX12_go_177 : decode cX12_go 177 = .ok (.iaload, 1) := by decide +kernel
theorem dX12_go_178 : decode cX12_go 178 = .ok (.iconst 1, 1) := by decide +kernel
theorem dX12_go_179 : decode cX12_go 179 = .ok (.iadd, 1) := by decide +kernel
theorem dX12_go_180 : decode cX12_go 180 = .ok (.iastore, 1) := by decide +kernel
theorem dX12_go_181 : decode cX12_go 181 = .ok (.aload_n 0, 1) := by decide +kernel
theorem dX12_go_182 : decode cX12_go 182 = .ok (.dup, 1) := by decide +kernel
theorem dX12_go_183 : decode cX12_go 183 = .ok (.getfield 179, 3) := by decide +kernel
theorem dX12_go_186 : decode cX12_go 186 = .ok (.aload_n 0, 1) := by decide +kernel
theorem dX12_go_187 : decode cX12_go 187 = .ok (.getfield 41, 3) := by decide +kernel
theorem dX12_go_190 : decode cX12_go 190 = .ok (.iconst 0, 1) := by decide +kernel
theorem dX12_go_191 : decode cX12_go 191 = .ok (.iaload, 1) := by decide +kernel
theorem dX12_go_192 : decode cX12_go 192 = .ok (.iload 9, 2) := by decide +kernel
theorem dX12_go_194 : decode cX12_go 194 = .ok (.iload 6, 2) := by decide +kernel
theorem dX12_go_196 : decode cX12_go 196 = .ok (.if_icmp .ne 12, 3) := by decide +kernel
theorem dX12_go_199 : decode cX12_go 199 = .ok (.aload_n 0, 1) := by decide +kernel
theorem dX12_go_200 : decode cX12_go 200 = .ok (.getfield 41, 3) := by decide +kernel
theorem dX12_go_203 : decode cX12_go 203 = .ok (.iconst 1, 1) := by decide +kernel
theorem dX12_go_204 : decode cX12_go 204 = .ok (.iaload, 1) := by decide +kernel
theorem dX12_go_205 : decode cX12_go 205 = .ok (.goto 4, 3) := by decide +kernel
theorem dX12_go_208 : decode cX12_go 208 = .ok (.iconst 0, 1) := by decide +kernel
theorem dX12_go_209 : decode cX12_go 209 = .ok (.iadd, 1) := by decide +kernel
theorem dX12_go_210 : decode cX12_go 210 = .ok (.iadd, 1) := by decide +kernel
theorem dX12_go_211 : decode cX12_go 211 = .ok (.putfield 179, 3) := by decide +kernel
theorem dX12_go_214 : decode cX12_go 214 = .ok (.iload 7, 2) := by decide +kernel
theorem dX12_go_216 : decode cX12_go 216 = .ok (.istore 6, 2) := by decide +kernel
theorem dX12_go_218 : decode cX12_go 218 = .ok (.iload 9, 2) := by decide +kernel
theorem dX12_go_220 : decode cX12_go 220 = .ok (.istore 7, 2) := by decide +kernel
theorem dX12_go_222 : decode cX12_go 222 = .ok (.aload_n 0, 1) := by decide +kernel
theorem dX12_go_223 : decode cX12_go 223 = .ok (.dup, 1) := by decide +kernel
theorem dX12_go_224 : decode cX12_go 224 = .ok (.getfield 170, 3) := by decide +kernel
theorem dX12_go_227 : decode cX12_go 227 = .ok (.iconst 1, 1) := by decide +kernel
theorem dX12_go_228 : decode cX12_go 228 = .ok (.iadd, 1) := by decide +kernel
theorem dX12_go_229 : decode cX12_go 229 = .ok (.putfield 170, 3) := by decide +kernel
theorem dX12_go_232 : decode cX12_go 232 = .ok (.aload_n 0, 1) := by decide +kernel
theorem dX12_go_233 : decode cX12_go 233 = .ok (.getfield 56, 3) := by decide +kernel
theorem dX12_go_236 : decode cX12_go 236 = .ok (.aload_n 0, 1) := by decide +kernel
theorem dX12_go_237 : decode cX12_go 237 = .ok (.getfield 170, 3) := by decide +kernel
theorem dX12_go_240 : decode cX12_go 240 = .ok (.iload 7, 2) := by decide +kernel
theorem dX12_go_242 : decode cX12_go 242 = .ok (.iastore, 1) := by decide +kernel
theorem dX12_go_243 : decode cX12_go 243 = .ok (.goto (-207), 3) := by decide +kernel
theorem dX12_go_246 : decode cX12_go 246 = .ok (.aload_n 0, 1) := by decide +kernel
theorem dX12_go_247 : decode cX12_go 247 = .ok (.getfield 170, 3) := by decide +kernel
theorem dX12_go_250 : decode cX12_go 250 = .ok (.iconst 1, 1) := by decide +kernel
theorem dX12_go_251 : decode cX12_go 251 = .ok (.iadd, 1) := by decide +kernel
theorem dX12_go_252 : decode cX12_go 252 = .ok (.istore 9, 2) := by decide +kernel
theorem dX12_go_254 : decode cX12_go 254 = .ok (.iload 9, 2) := by decide +kernel
theorem dX12_go_256 : decode cX12_go 256 = .ok (.bipush 30, 2) := by decide +kernel
theorem dX12_go_258 : decode cX12_go 258 = .ok (.if_icmp .gt 18, 3) := by decide +kernel
theorem dX12_go_261 : decode cX12_go 261 = .ok (.aload_n 0, 1) := by decide +kernel
theorem dX12_go_262 : decode cX12_go 262 = .ok (.getfield 56, 3) := by decide +kernel
theorem dX12_go_265 : decode cX12_go 265 = .ok (.iload 9, 2) := by decide +kernel
theorem dX12_go_267 : decode cX12_go 267 = .ok (.iload 7, 2) := by decide +kernel
theorem dX12_go_269 : decode cX12_go 269 = .ok (.iastore, 1) := by decide +kernel
theorem dX12_go_270 : decode cX12_go 270 = .ok (.iinc 9 1, 3) := by decide +kernel
theorem dX12_go_273 : decode cX12_go 273 = .ok (.goto (-19), 3) := by decide +kernel
theorem dX12_go_276 : decode cX12_go 276 = .ok (.aload_n 0, 1) := by decide +kernel
theorem dX12_go_277 : decode cX12_go 277 = .ok (.iload 7, 2) := by decide +kernel
theorem dX12_go_279 : decode cX12_go 279 = .ok (.iload 4, 2) := by decide +kernel
theorem dX12_go_281 : decode cX12_go 281 = .ok (.if_icmp .ne 7, 3) := by decide +kernel
theorem dX12_go_284 : decode cX12_go 284 = .ok (.iconst 1, 1) := by decide +kernel
theorem dX12_go_285 : decode cX12_go 285 = .ok (.goto 4, 3) := by decide +kernel
theorem dX12_go_288 : decode cX12_go 288 = .ok (.iconst 0, 1) := by decide +kernel
theorem dX12_go_289 : decode cX12_go 289 = .ok (.putfield 186, 3) := by decide +kernel
theorem dX12_go_292 : decode cX12_go 292 = .ok (.return_, 1) := by decide +kernel
theorem dX12_goAs_0 : decode cX12_goAs 0 = .ok (.aload_n 0, 1) := by decide +kernel
theorem dX12_goAs_1 : decode cX12_goAs 1 = .ok (.iload_n 1, 1) := by decide +kernel
theorem dX12_goAs_2 : decode cX12_goAs 2 = .ok (.aload_n 0, 1) := by decide +kernel
theorem dX12_goAs_3 : decode cX12_goAs 3 = .ok (.getfield 32, 3) := by decide +kernel
theorem dX12_goAs_6 : decode cX12_goAs 6 = .ok (.iload_n 2, 1) := by decide +kernel
theorem dX12_goAs_7 : decode cX12_goAs 7 = .ok (.iaload, 1) := by decide +kernel
theorem dX12_goAs_8 : decode cX12_goAs 8 = .ok (.aload_n 0, 1) := by decide +kernel
theorem dX12_goAs_9 : decode cX12_goAs 9 = .ok (.getfield 35, 3) := by decide +kernel
theorem dX12_goAs_12 : decode cX12_goAs 12 = .ok (.iload_n 2, 1) := by decide +kernel
theorem dX12_goAs_13 : decode cX12_goAs 13 = .ok (.iaload, 1) := by decide +kernel
theorem dX12_goAs_14 : decode cX12_goAs 14 = .ok (.aload_n 0, 1) := by decide +kernel
theorem dX12_goAs_15 : decode cX12_goAs 15 = .ok (.getfield 38, 3) := by decide +kernel
theorem dX12_goAs_18 : decode cX12_goAs 18 = .ok (.iload_n 2, 1) := by decide +kernel
theorem dX12_goAs_19 : decode cX12_goAs 19 = .ok (.iaload, 1) := by decide +kernel
theorem dX12_goAs_20 : decode cX12_goAs 20 = .ok (.aload_n 0, 1) := by decide +kernel
theorem dX12_goAs_21 : decode cX12_goAs 21 = .ok (.getfield 47, 3) := by decide +kernel
theorem dX12_goAs_24 : decode cX12_goAs 24 = .ok (.iload_n 1, 1) := by decide +kernel
theorem dX12_goAs_25 : decode cX12_goAs 25 = .ok (.bipush 28, 2) := by decide +kernel
theorem dX12_goAs_27 : decode cX12_goAs 27 = .ok (.iadd, 1) := by decide +kernel
theorem dX12_goAs_28 : decode cX12_goAs 28 = .ok (.iload_n 2, 1) := by decide +kernel
theorem dX12_goAs_29 : decode cX12_goAs 29 = .ok (.iadd, 1) := by decide +kernel
theorem dX12_goAs_30 : decode cX12_goAs 30 = .ok (.iaload, 1) := by decide +kernel
theorem dX12_goAs_31 : decode cX12_goAs 31 = .ok (.invokevirtual 189, 3) := by decide +kernel
theorem dX12_goAs_34 : decode cX12_goAs 34 = .ok (.return_, 1) := by decide +kernel
theorem dX12_walk_0 : decode cX12_walk 0 = .ok (.aload_n 0, 1) := by decide +kernel
theorem dX12_walk_1 : decode cX12_walk 1 = .ok (.iload_n 1, 1) := by decide +kernel
theorem dX12_walk_2 : decode cX12_walk 2 = .ok (.invokevirtual 152, 3) := by decide +kernel
theorem dX12_walk_5 : decode cX12_walk 5 = .ok (.ifCond .eq 13, 3) := by decide +kernel
theorem dX12_walk_8 : decode cX12_walk 8 = .ok (.iload_n 2, 1) := by decide +kernel
theorem dX12_walk_9 : decode cX12_walk 9 = .ok (.iconst 0, 1) := by decide +kernel
theorem dX12_walk_10 : decode cX12_walk 10 = .ok (.bipush 30, 2) := by decide +kernel
theorem dX12_walk_12 : decode cX12_walk 12 = .ok (.invokestatic 94, 3) := by decide +kernel
theorem dX12_walk_15 : decode cX12_walk 15 = .ok (.ifCond .ne 5, 3) := by decide +kernel
theorem dX12_walk_18 : decode cX12_walk 18 = .ok (.iconst (-1), 1) := by decide +kernel
theorem dX12_walk_19 : decode cX12_walk 19 = .ok (.ireturn, 1) := by decide +kernel
theorem dX12_walk_20 : decode cX12_walk 20 = .ok (.aload_n 0, 1) := by decide +kernel
theorem dX12_walk_21 : decode cX12_walk 21 = .ok (.iconst 0, 1) := by decide +kernel
theorem dX12_walk_22 : decode cX12_walk 22 = .ok (.iload_n 1, 1) := by decide +kernel
theorem dX12_walk_23 : decode cX12_walk 23 = .ok (.invokevirtual 193, 3) := by decide +kernel
theorem dX12_walk_26 : decode cX12_walk 26 = .ok (.aload_n 0, 1) := by decide +kernel
theorem dX12_walk_27 : decode cX12_walk 27 = .ok (.getfield 56, 3) := by decide +kernel
theorem dX12_walk_30 : decode cX12_walk 30 = .ok (.iload_n 2, 1) := by decide +kernel
theorem dX12_walk_31 : decode cX12_walk 31 = .ok (.iaload, 1) := by decide +kernel
theorem dX12_walk_32 : decode cX12_walk 32 = .ok (.ireturn, 1) := by decide +kernel
theorem dX12_way_0 : decode cX12_way 0 = .ok (.aload_n 0, 1) := by decide +kernel
theorem dX12_way_1 : decode cX12_way 1 = .ok (.iload_n 1, 1) := by decide +kernel
theorem dX12_way_2 : decode cX12_way 2 = .ok (.invokevirtual 152, 3) := by decide +kernel
theorem dX12_way_5 : decode cX12_way 5 = .ok (.ifCond .eq 12, 3) := by decide +kernel
theorem dX12_way_8 : decode cX12_way 8 = .ok (.iload_n 2, 1) := by decide +kernel
theorem dX12_way_9 : decode cX12_way 9 = .ok (.iconst 0, 1) := by decide +kernel
theorem dX12_way_10 : decode cX12_way 10 = .ok (.iconst 4, 1) := by decide +kernel
theorem dX12_way_11 : decode cX12_way 11 = .ok (.invokestatic 94, 3) := by decide +kernel
theorem dX12_way_14 : decode cX12_way 14 = .ok (.ifCond .ne 5, 3) := by decide +kernel
theorem dX12_way_17 : decode cX12_way 17 = .ok (.iconst (-1), 1) := by decide +kernel
theorem dX12_way_18 : decode cX12_way 18 = .ok (.ireturn, 1) := by decide +kernel
theorem dX12_way_19 : decode cX12_way 19 = .ok (.aload_n 0, 1) := by decide +kernel
theorem dX12_way_20 : decode cX12_way 20 = .ok (.iconst 0, 1) := by decide +kernel
theorem dX12_way_21 : decode cX12_way 21 = .ok (.iload_n 1, 1) := by decide +kernel
theorem dX12_way_22 : decode cX12_way 22 = .ok (.invokevirtual 193, 3) := by decide +kernel
theorem dX12_way_25 : decode cX12_way 25 = .ok (.iload_n 2, 1) := by decide +kernel
theorem dX12_way_26 : decode cX12_way 26 = .ok (.ifCond .ne 10, 3) := by decide +kernel
theorem dX12_way_29 : decode cX12_way 29 = .ok (.aload_n 0, 1) := by decide +kernel
theorem dX12_way_30 : decode cX12_way 30 = .ok (.getfield 170, 3) := by decide +kernel
theorem dX12_way_33 : decode cX12_way 33 = .ok (.goto 51, 3) := by decide +kernel
theorem dX12_way_36 : decode cX12_way 36 = .ok (.iload_n 2, 1) := by decide +kernel
theorem dX12_way_37 : decode cX12_way 37 = .ok (.iconst 1, 1) := by decide +kernel
theorem dX12_way_38 : decode cX12_way 38 = .ok (.if_icmp .ne 10, 3) := by decide +kernel
theorem dX12_way_41 : decode cX12_way 41 = .ok (.aload_n 0, 1) := by decide +kernel
theorem dX12_way_42 : decode cX12_way 42 = .ok (.getfield 173, 3) := by decide +kernel
theorem dX12_way_45 : decode cX12_way 45 = .ok (.goto 39, 3) := by decide +kernel
theorem dX12_way_48 : decode cX12_way 48 = .ok (.iload_n 2, 1) := by decide +kernel
theorem dX12_way_49 : decode cX12_way 49 = .ok (.iconst 2, 1) := by decide +kernel
theorem dX12_way_50 : decode cX12_way 50 = .ok (.if_icmp .ne 10, 3) := by decide +kernel
theorem dX12_way_53 : decode cX12_way 53 = .ok (.aload_n 0, 1) := by decide +kernel
theorem dX12_way_54 : decode cX12_way 54 = .ok (.getfield 176, 3) := by decide +kernel
theorem dX12_way_57 : decode cX12_way 57 = .ok (.goto 27, 3) := by decide +kernel
theorem dX12_way_60 : decode cX12_way 60 = .ok (.iload_n 2, 1) := by decide +kernel
theorem dX12_way_61 : decode cX12_way 61 = .ok (.iconst 3, 1) := by decide +kernel
theorem dX12_way_62 : decode cX12_way 62 = .ok (.if_icmp .ne 10, 3) := by decide +kernel
theorem dX12_way_65 : decode cX12_way 65 = .ok (.aload_n 0, 1) := by decide +kernel
theorem dX12_way_66 : decode cX12_way 66 = .ok (.getfield 179, 3) := by decide +kernel
theorem dX12_way_69 : decode cX12_way 69 = .ok (.goto 15, 3) := by decide +kernel
theorem dX12_way_72 : decode cX12_way 72 = .ok (.aload_n 0, 1) := by decide +kernel
theorem dX12_way_73 : decode cX12_way 73 = .ok (.getfield 186, 3) := by decide +kernel
theorem dX12_way_76 : decode cX12_way 76 = .ok (.ifCond .eq 7, 3) := by decide +kernel
theorem dX12_way_79 : decode cX12_way 79 = .ok (.iconst 1, 1) := by decide +kernel
theorem dX12_way_80 : decode cX12_way 80 = .ok (.goto 4, 3) := by decide +kernel
theorem dX12_way_83 : decode cX12_way 83 = .ok (.iconst 0, 1) := by decide +kernel
theorem dX12_way_84 : decode cX12_way 84 = .ok (.ireturn, 1) := by decide +kernel
theorem dX12_cameTo_0 : decode cX12_cameTo 0 = .ok (.iload_n 1, 1) := by decide +kernel
theorem dX12_cameTo_1 : decode cX12_cameTo 1 = .ok (.ifCond .ne 7, 3) := by decide +kernel
theorem dX12_cameTo_4 : decode cX12_cameTo 4 = .ok (.iconst (-1), 1) := by decide +kernel
theorem dX12_cameTo_5 : decode cX12_cameTo 5 = .ok (.goto 11, 3) := by decide +kernel
theorem dX12_cameTo_8 : decode cX12_cameTo 8 = .ok (.aload_n 0, 1) := by decide +kernel
theorem dX12_cameTo_9 : decode cX12_cameTo 9 = .ok (.getfield 56, 3) := by decide +kernel
theorem dX12_cameTo_12 : decode cX12_cameTo 12 = .ok (.iload_n 1, 1) := by decide +kernel
theorem dX12_cameTo_13 : decode cX12_cameTo 13 = .ok (.iconst 1, 1) := by decide +kernel
theorem dX12_cameTo_14 : decode cX12_cameTo 14 = .ok (.isub, 1) := by decide +kernel
theorem dX12_cameTo_15 : decode cX12_cameTo 15 = .ok (.iaload, 1) := by decide +kernel
theorem dX12_cameTo_16 : decode cX12_cameTo 16 = .ok (.ireturn, 1) := by decide +kernel
theorem dX12_round_0 : decode cX12_round 0 = .ok (.aload_n 0, 1) := by decide +kernel
theorem dX12_round_1 : decode cX12_round 1 = .ok (.iload_n 1, 1) := by decide +kernel
theorem dX12_round_2 : decode cX12_round 2 = .ok (.invokevirtual 152, 3) := by decide +kernel
theorem dX12_round_5 : decode cX12_round 5 = .ok (.ifCond .ne 5, 3) := by decide +kernel
theorem dX12_round_8 : decode cX12_round 8 = .ok (.iconst (-1), 1) := by decide +kernel
theorem dX12_round_9 : decode cX12_round 9 = .ok (.ireturn, 1) := by decide +kernel
theorem dX12_round_10 : decode cX12_round 10 = .ok (.aload_n 0, 1) := by decide +kernel
theorem dX12_round_11 : decode cX12_round 11 = .ok (.iconst 0, 1) := by decide +kernel
theorem dX12_round_12 : decode cX12_round 12 = .ok (.iload_n 1, 1) := by decide +kernel
theorem dX12_round_13 : decode cX12_round 13 = .ok (.invokevirtual 193, 3) := by decide +kernel
theorem dX12_round_16 : decode cX12_round 16 = .ok (.iconst 1, 1) := by decide +kernel
theorem dX12_round_17 : decode cX12_round 17 = .ok (.istore_n 2, 1) := by decide +kernel
theorem dX12_round_18 : decode cX12_round 18 = .ok (.iload_n 2, 1) := by decide +kernel
theorem dX12_round_19 : decode cX12_round 19 = .ok (.aload_n 0, 1) := by decide +kernel
theorem dX12_round_20 : decode cX12_round 20 = .ok (.getfield 170, 3) := by decide +kernel
theorem dX12_round_23 : decode cX12_round 23 = .ok (.if_icmp .gt 52, 3) := by decide +kernel
theorem dX12_round_26 : decode cX12_round 26 = .ok (.iconst 0, 1) := by decide +kernel
theorem dX12_round_27 : decode cX12_round 27 = .ok (.istore_n 3, 1) := by decide +kernel
theorem dX12_round_28 : decode cX12_round 28 = .ok (.iload_n 3, 1) := by decide +kernel
theorem dX12_round_29 : decode cX12_round 29 = .ok (.iload_n 2, 1) := by decide +kernel
theorem dX12_round_30 : decode cX12_round 30 = .ok (.if_icmp .ge 39, 3) := by decide +kernel
theorem dX12_round_33 : decode cX12_round 33 = .ok (.aload_n 0, 1) := by decide +kernel
theorem dX12_round_34 : decode cX12_round 34 = .ok (.getfield 56, 3) := by decide +kernel
theorem dX12_round_37 : decode cX12_round 37 = .ok (.iload_n 2, 1) := by decide +kernel
theorem dX12_round_38 : decode cX12_round 38 = .ok (.iaload, 1) := by decide +kernel
theorem dX12_round_39 : decode cX12_round 39 = .ok (.aload_n 0, 1) := by decide +kernel
theorem dX12_round_40 : decode cX12_round 40 = .ok (.getfield 56, 3) := by decide +kernel
theorem dX12_round_43 : decode cX12_round 43 = .ok (.iload_n 3, 1) := by decide +kernel
theorem dX12_round_44 : decode cX12_round 44 = .ok (.iaload, 1) := by decide +kernel
theorem dX12_round_45 : decode cX12_round 45 = .ok (.if_icmp .ne 18, 3) := by decide +kernel
theorem dX12_round_48 : decode cX12_round 48 = .ok (.aload_n 0, 1) := by decide +kernel
theorem dX12_round_49 : decode cX12_round 49 = .ok (.iload_n 2, 1) := by decide +kernel
theorem dX12_round_50 : decode cX12_round 50 = .ok (.invokevirtual 197, 3) := by decide +kernel
theorem dX12_round_53 : decode cX12_round 53 = .ok (.aload_n 0, 1) := by decide +kernel
theorem dX12_round_54 : decode cX12_round 54 = .ok (.iload_n 3, 1) := by decide +kernel
theorem dX12_round_55 : decode cX12_round 55 = .ok (.invokevirtual 197, 3) := by decide +kernel
theorem dX12_round_58 : decode cX12_round 58 = .ok (.if_icmp .ne 5, 3) := by decide +kernel
theorem dX12_round_61 : decode cX12_round 61 = .ok (.iload_n 2, 1) := by decide +kernel
theorem dX12_round_62 : decode cX12_round 62 = .ok (.ireturn, 1) := by decide +kernel
theorem dX12_round_63 : decode cX12_round 63 = .ok (.iinc 3 1, 3) := by decide +kernel
theorem dX12_round_66 : decode cX12_round 66 = .ok (.goto (-38), 3) := by decide +kernel
theorem dX12_round_69 : decode cX12_round 69 = .ok (.iinc 2 1, 3) := by decide +kernel
theorem dX12_round_72 : decode cX12_round 72 = .ok (.goto (-54), 3) := by decide +kernel
theorem dX12_round_75 : decode cX12_round 75 = .ok (.bipush (-4), 2) := by decide +kernel
theorem dX12_round_77 : decode cX12_round 77 = .ok (.ireturn, 1) := by decide +kernel
theorem dX12_taxBy_0 : decode cX12_taxBy 0 = .ok (.iconst 0, 1) := by decide +kernel
theorem dX12_taxBy_1 : decode cX12_taxBy 1 = .ok (.istore_n 2, 1) := by decide +kernel
theorem dX12_taxBy_2 : decode cX12_taxBy 2 = .ok (.iconst 0, 1) := by decide +kernel
theorem dX12_taxBy_3 : decode cX12_taxBy 3 = .ok (.istore_n 3, 1) := by decide +kernel
theorem dX12_taxBy_4 : decode cX12_taxBy 4 = .ok (.iload_n 3, 1) := by decide +kernel
theorem dX12_taxBy_5 : decode cX12_taxBy 5 = .ok (.aload_n 0, 1) := by decide +kernel
theorem dX12_taxBy_6 : decode cX12_taxBy 6 = .ok (.getfield 29, 3) := by decide +kernel
theorem dX12_taxBy_9 : decode cX12_taxBy 9 = .ok (.iconst 0, 1) := by decide +kernel
theorem dX12_taxBy_10 : decode cX12_taxBy 10 = .ok (.iaload, 1) := by decide +kernel
theorem dX12_taxBy_11 : decode cX12_taxBy 11 = .ok (.if_icmp .ge 22, 3) := by decide +kernel
theorem dX12_taxBy_14 : decode cX12_taxBy 14 = .ok (.aload_n 0, 1) := by decide +kernel
theorem dX12_taxBy_15 : decode cX12_taxBy 15 = .ok (.iload_n 1, 1) := by decide +kernel
theorem dX12_taxBy_16 : decode cX12_taxBy 16 = .ok (.iload_n 3, 1) := by decide +kernel
theorem dX12_taxBy_17 : decode cX12_taxBy 17 = .ok (.invokevirtual 193, 3) := by decide +kernel
theorem dX12_taxBy_20 : decode cX12_taxBy 20 = .ok (.iload_n 2, 1) := by decide +kernel
theorem dX12_taxBy_21 : decode cX12_taxBy 21 = .ok (.aload_n 0, 1) := by decide +kernel
theorem dX12_taxBy_22 : decode cX12_taxBy 22 = .ok (.getfield 179, 3) := by decide +kernel
theorem dX12_taxBy_25 : decode cX12_taxBy 25 = .ok (.iadd, 1) := by decide +kernel
theorem dX12_taxBy_26 : decode cX12_taxBy 26 = .ok (.istore_n 2, 1) := by decide +kernel
theorem dX12_taxBy_27 : decode cX12_taxBy 27 = .ok (.iinc 3 1, 3) := by decide +kernel
theorem dX12_taxBy_30 : decode cX12_taxBy 30 = .ok (.goto (-26), 3) := by decide +kernel
theorem dX12_taxBy_33 : decode cX12_taxBy 33 = .ok (.iload_n 2, 1) := by decide +kernel
theorem dX12_taxBy_34 : decode cX12_taxBy 34 = .ok (.ireturn, 1) := by decide +kernel
theorem dX12_tax_0 : decode cX12_tax 0 = .ok (.aload_n 0, 1) := by decide +kernel
theorem dX12_tax_1 : decode cX12_tax 1 = .ok (.iconst 0, 1) := by decide +kernel
theorem dX12_tax_2 : decode cX12_tax 2 = .ok (.invokevirtual 200, 3) := by decide +kernel
theorem dX12_tax_5 : decode cX12_tax 5 = .ok (.ireturn, 1) := by decide +kernel
theorem dX12_know_0 : decode cX12_know 0 = .ok (.aload_n 0, 1) := by decide +kernel
theorem dX12_know_1 : decode cX12_know 1 = .ok (.getfield 129, 3) := by decide +kernel
theorem dX12_know_4 : decode cX12_know 4 = .ok (.bipush 8, 2) := by decide +kernel
theorem dX12_know_6 : decode cX12_know 6 = .ok (.if_icmp .ne 46, 3) := by decide +kernel
theorem dX12_know_9 : decode cX12_know 9 = .ok (.iconst 0, 1) := by decide +kernel
theorem dX12_know_10 : decode cX12_know 10 = .ok (.istore_n 1, 1) := by decide +kernel
theorem dX12_know_11 : decode cX12_know 11 = .ok (.iload_n 1, 1) := by decide +kernel
theorem dX12_know_12 : decode cX12_know 12 = .ok (.sipush 224, 3) := by decide +kernel
theorem dX12_know_15 : decode cX12_know 15 = .ok (.if_icmp .ge 27, 3) := by decide +kernel
theorem dX12_know_18 : decode cX12_know 18 = .ok (.aload_n 0, 1) := by decide +kernel
theorem dX12_know_19 : decode cX12_know 19 = .ok (.getfield 47, 3) := by decide +kernel
theorem dX12_know_22 : decode cX12_know 22 = .ok (.bipush 32, 2) := by decide +kernel
theorem dX12_know_24 : decode cX12_know 24 = .ok (.iload_n 1, 1) := by decide +kernel
theorem dX12_know_25 : decode cX12_know 25 = .ok (.iadd, 1) := by decide +kernel
theorem dX12_know_26 : decode cX12_know 26 = .ok (.aload_n 0, 1) := by decide +kernel
theorem dX12_know_27 : decode cX12_know 27 = .ok (.getfield 47, 3) := by decide +kernel
theorem dX12_know_30 : decode cX12_know 30 = .ok (.bipush 64, 2) := by decide +kernel
theorem dX12_know_32 : decode cX12_know 32 = .ok (.iload_n 1, 1) := by decide +kernel
theorem dX12_know_33 : decode cX12_know 33 = .ok (.iadd, 1) := by decide +kernel
theorem dX12_know_34 : decode cX12_know 34 = .ok (.iaload, 1) := by decide +kernel
theorem dX12_know_35 : decode cX12_know 35 = .ok (.iastore, 1) := by decide +kernel
theorem dX12_know_36 : decode cX12_know 36 = .ok (.iinc 1 1, 3) := by decide +kernel
theorem dX12_know_39 : decode cX12_know 39 = .ok (.goto (-28), 3) := by decide +kernel
theorem dX12_know_42 : decode cX12_know 42 = .ok (.aload_n 0, 1) := by decide +kernel
theorem dX12_know_43 : decode cX12_know 43 = .ok (.dup, 1) := by decide +kernel
theorem dX12_know_44 : decode cX12_know 44 = .ok (.getfield 129, 3) := by decide +kernel
theorem dX12_know_47 : decode cX12_know 47 = .ok (.iconst 1, 1) := by decide +kernel
theorem dX12_know_48 : decode cX12_know 48 = .ok (.isub, 1) := by decide +kernel
theorem dX12_know_49 : decode cX12_know 49 = .ok (.putfield 129, 3) := by decide +kernel
theorem dX12_know_52 : decode cX12_know 52 = .ok (.aload_n 0, 1) := by decide +kernel
theorem dX12_know_53 : decode cX12_know 53 = .ok (.iconst 0, 1) := by decide +kernel
theorem dX12_know_54 : decode cX12_know 54 = .ok (.bipush 32, 2) := by decide +kernel
theorem dX12_know_56 : decode cX12_know 56 = .ok (.bipush 32, 2) := by decide +kernel
theorem dX12_know_58 : decode cX12_know 58 = .ok (.aload_n 0, 1) := by decide +kernel
theorem dX12_know_59 : decode cX12_know 59 = .ok (.getfield 129, 3) := by decide +kernel
theorem dX12_know_62 : decode cX12_know 62 = .ok (.imul, 1) := by decide +kernel
theorem dX12_know_63 : decode cX12_know 63 = .ok (.iadd, 1) := by decide +kernel
theorem dX12_know_64 : decode cX12_know 64 = .ok (.invokevirtual 203, 3) := by decide +kernel
theorem dX12_know_67 : decode cX12_know 67 = .ok (.aload_n 0, 1) := by decide +kernel
theorem dX12_know_68 : decode cX12_know 68 = .ok (.dup, 1) := by decide +kernel
theorem dX12_know_69 : decode cX12_know 69 = .ok (.getfield 129, 3) := by decide +kernel
theorem dX12_know_72 : decode cX12_know 72 = .ok (.iconst 1, 1) := by decide +kernel
theorem dX12_know_73 : decode cX12_know 73 = .ok (.iadd, 1) := by decide +kernel
theorem dX12_know_74 : decode cX12_know 74 = .ok (.putfield 129, 3) := by decide +kernel
theorem dX12_know_77 : decode cX12_know 77 = .ok (.return_, 1) := by decide +kernel
theorem dX12_putUp_0 : decode cX12_putUp 0 = .ok (.iload_n 1, 1) := by decide +kernel
theorem dX12_putUp_1 : decode cX12_putUp 1 = .ok (.iconst 1, 1) := by decide +kernel
theorem dX12_putUp_2 : decode cX12_putUp 2 = .ok (.iadd, 1) := by decide +kernel
theorem dX12_putUp_3 : decode cX12_putUp 3 = .ok (.iconst 3, 1) := by decide +kernel
theorem dX12_putUp_4 : decode cX12_putUp 4 = .ok (.aload_n 0, 1) := by decide +kernel
theorem dX12_putUp_5 : decode cX12_putUp 5 = .ok (.getfield 47, 3) := by decide +kernel
theorem dX12_putUp_8 : decode cX12_putUp 8 = .ok (.iload_n 1, 1) := by decide +kernel
theorem dX12_putUp_9 : decode cX12_putUp 9 = .ok (.iconst 0, 1) := by decide +kernel
theorem dX12_putUp_10 : decode cX12_putUp 10 = .ok (.iadd, 1) := by decide +kernel
theorem dX12_putUp_11 : decode cX12_putUp 11 = .ok (.iaload, 1) := by decide +kernel
theorem dX12_putUp_12 : decode cX12_putUp 12 = .ok (.imul, 1) := by decide +kernel
theorem dX12_putUp_13 : decode cX12_putUp 13 = .ok (.iadd, 1) := by decide +kernel
theorem dX12_putUp_14 : decode cX12_putUp 14 = .ok (.istore 5, 2) := by decide +kernel
theorem dX12_putUp_16 : decode cX12_putUp 16 = .ok (.aload_n 0, 1) := by decide +kernel
theorem dX12_putUp_17 : decode cX12_putUp 17 = .ok (.getfield 47, 3) := by decide +kernel
theorem dX12_putUp_20 : decode cX12_putUp 20 = .ok (.iload 5, 2) := by decide +kernel
theorem dX12_putUp_22 : decode cX12_putUp 22 = .ok (.iload_n 2, 1) := by decide +kernel
theorem dX12_putUp_23 : decode cX12_putUp 23 = .ok (.iastore, 1) := by decide +kernel
theorem dX12_putUp_24 : decode cX12_putUp 24 = .ok (.aload_n 0, 1) := by decide +kernel
theorem dX12_putUp_25 : decode cX12_putUp 25 = .ok (.getfield 47, 3) := by decide +kernel
theorem dX12_putUp_28 : decode cX12_putUp 28 = .ok (.iload 5, 2) := by decide +kernel
theorem dX12_putUp_30 : decode cX12_putUp 30 = .ok (.iconst 1, 1) := by decide +kernel
theorem dX12_putUp_31 : decode cX12_putUp 31 = .ok (.iadd, 1) := by decide +kernel
theorem dX12_putUp_32 : decode cX12_putUp 32 = .ok (.iload_n 3, 1) := by decide +kernel
theorem dX12_putUp_33 : decode cX12_putUp 33 = .ok (.iastore, 1) := by decide +kernel
