theorem dX11_walker_90 : decode cX11_walker 90 = .ok (.iaload, 1) := by decide +kernel
theorem dX11_walker_91 : decode cX11_walker 91 = .ok (.ireturn, 1) := by decide +kernel
theorem dX11_walker_92 : decode cX11_walker 92 = .ok (.iconst (-1), 1) := by decide +kernel
theorem dX11_walker_93 : decode cX11_walker 93 = .ok (.ireturn, 1) := by decide +kernel
theorem dX11_walk_0 : decode cX11_walk 0 = .ok (.aload_n 0, 1) := by decide +kernel
theorem dX11_walk_1 : decode cX11_walk 1 = .ok (.iload_n 1, 1) := by decide +kernel
theorem dX11_walk_2 : decode cX11_walk 2 = .ok (.invokevirtual 167, 3) := by decide +kernel
theorem dX11_walk_5 : decode cX11_walk 5 = .ok (.ifCond .eq 12, 3) := by decide +kernel
theorem dX11_walk_8 : decode cX11_walk 8 = .ok (.iload_n 2, 1) := by decide +kernel
theorem dX11_walk_9 : decode cX11_walk 9 = .ok (.bipush 31, 2) := by decide +kernel
theorem dX11_walk_11 : decode cX11_walk 11 = .ok (.invokestatic 180, 3) := by decide +kernel
theorem dX11_walk_14 : decode cX11_walk 14 = .ok (.ifCond .ne 5, 3) := by decide +kernel
theorem dX11_walk_17 : decode cX11_walk 17 = .ok (.iconst (-1), 1) := by decide +kernel
theorem dX11_walk_18 : decode cX11_walk 18 = .ok (.ireturn, 1) := by decide +kernel
theorem dX11_walk_19 : decode cX11_walk 19 = .ok (.aload_n 0, 1) := by decide +kernel
theorem dX11_walk_20 : decode cX11_walk 20 = .ok (.iload_n 1, 1) := by decide +kernel
theorem dX11_walk_21 : decode cX11_walk 21 = .ok (.invokevirtual 184, 3) := by decide +kernel
theorem dX11_walk_24 : decode cX11_walk 24 = .ok (.aload_n 0, 1) := by decide +kernel
theorem dX11_walk_25 : decode cX11_walk 25 = .ok (.getfield 36, 3) := by decide +kernel
theorem dX11_walk_28 : decode cX11_walk 28 = .ok (.iload_n 2, 1) := by decide +kernel
theorem dX11_walk_29 : decode cX11_walk 29 = .ok (.invokevirtual 187, 3) := by decide +kernel
theorem dX11_walk_32 : decode cX11_walk 32 = .ok (.ireturn, 1) := by decide +kernel
theorem dX11_way_0 : decode cX11_way 0 = .ok (.aload_n 0, 1) := by decide +kernel
theorem dX11_way_1 : decode cX11_way 1 = .ok (.iload_n 1, 1) := by decide +kernel
theorem dX11_way_2 : decode cX11_way 2 = .ok (.invokevirtual 167, 3) := by decide +kernel
theorem dX11_way_5 : decode cX11_way 5 = .ok (.ifCond .eq 11, 3) := by decide +kernel
theorem dX11_way_8 : decode cX11_way 8 = .ok (.iload_n 2, 1) := by decide +kernel
theorem dX11_way_9 : decode cX11_way 9 = .ok (.iconst 5, 1) := by decide +kernel
theorem dX11_way_10 : decode cX11_way 10 = .ok (.invokestatic 180, 3) := by decide +kernel
theorem dX11_way_13 : decode cX11_way 13 = .ok (.ifCond .ne 5, 3) := by decide +kernel
theorem dX11_way_16 : decode cX11_way 16 = .ok (.iconst (-1), 1) := by decide +kernel
theorem dX11_way_17 : decode cX11_way 17 = .ok (.ireturn, 1) := by decide +kernel
theorem dX11_way_18 : decode cX11_way 18 = .ok (.aload_n 0, 1) := by decide +kernel
theorem dX11_way_19 : decode cX11_way 19 = .ok (.iload_n 1, 1) := by decide +kernel
theorem dX11_way_20 : decode cX11_way 20 = .ok (.invokevirtual 184, 3) := by decide +kernel
theorem dX11_way_23 : decode cX11_way 23 = .ok (.iload_n 2, 1) := by decide +kernel
theorem dX11_way_24 : decode cX11_way 24 = .ok (.tableswitch 64 0 3 #[32, 40, 48, 56], 32) := by decide +kernel
theorem dX11_way_56 : decode cX11_way 56 = .ok (.aload_n 0, 1) := by decide +kernel
theorem dX11_way_57 : decode cX11_way 57 = .ok (.getfield 36, 3) := by decide +kernel
theorem dX11_way_60 : decode cX11_way 60 = .ok (.getfield 191, 3) := by decide +kernel
theorem dX11_way_63 : decode cX11_way 63 = .ok (.ireturn, 1) := by decide +kernel
theorem dX11_way_64 : decode cX11_way 64 = .ok (.aload_n 0, 1) := by decide +kernel
theorem dX11_way_65 : decode cX11_way 65 = .ok (.getfield 36, 3) := by decide +kernel
theorem dX11_way_68 : decode cX11_way 68 = .ok (.getfield 194, 3) := by decide +kernel
theorem dX11_way_71 : decode cX11_way 71 = .ok (.ireturn, 1) := by decide +kernel
theorem dX11_way_72 : decode cX11_way 72 = .ok (.aload_n 0, 1) := by decide +kernel
theorem dX11_way_73 : decode cX11_way 73 = .ok (.getfield 36, 3) := by decide +kernel
theorem dX11_way_76 : decode cX11_way 76 = .ok (.getfield 197, 3) := by decide +kernel
theorem dX11_way_79 : decode cX11_way 79 = .ok (.ireturn, 1) := by decide +kernel
theorem dX11_way_80 : decode cX11_way 80 = .ok (.aload_n 0, 1) := by decide +kernel
theorem dX11_way_81 : decode cX11_way 81 = .ok (.getfield 36, 3) := by decide +kernel
theorem dX11_way_84 : decode cX11_way 84 = .ok (.getfield 200, 3) := by decide +kernel
theorem dX11_way_87 : decode cX11_way 87 = .ok (.ireturn, 1) := by decide +kernel
theorem dX11_way_88 : decode cX11_way 88 = .ok (.aload_n 0, 1) := by decide +kernel
theorem dX11_way_89 : decode cX11_way 89 = .ok (.getfield 36, 3) := by decide +kernel
theorem dX11_way_92 : decode cX11_way 92 = .ok (.getfield 203, 3) := by decide +kernel
theorem dX11_way_95 : decode cX11_way 95 = .ok (.ifCond .eq 7, 3) := by decide +kernel
theorem dX11_way_98 : decode cX11_way 98 = .ok (.iconst 1, 1) := by decide +kernel
theorem dX11_way_99 : decode cX11_way 99 = .ok (.goto 4, 3) := by decide +kernel
theorem dX11_way_102 : decode cX11_way 102 = .ok (.iconst 0, 1) := by decide +kernel
theorem dX11_way_103 : decode cX11_way 103 = .ok (.ireturn, 1) := by decide +kernel
theorem dX11_round_0 : decode cX11_round 0 = .ok (.aload_n 0, 1) := by decide +kernel
theorem dX11_round_1 : decode cX11_round 1 = .ok (.iload_n 1, 1) := by decide +kernel
theorem dX11_round_2 : decode cX11_round 2 = .ok (.invokevirtual 167, 3) := by decide +kernel
theorem dX11_round_5 : decode cX11_round 5 = .ok (.ifCond .ne 5, 3) := by decide +kernel
theorem dX11_round_8 : decode cX11_round 8 = .ok (.iconst (-1), 1) := by decide +kernel
theorem dX11_round_9 : decode cX11_round 9 = .ok (.ireturn, 1) := by decide +kernel
theorem dX11_round_10 : decode cX11_round 10 = .ok (.aload_n 0, 1) := by decide +kernel
theorem dX11_round_11 : decode cX11_round 11 = .ok (.iload_n 1, 1) := by decide +kernel
theorem dX11_round_12 : decode cX11_round 12 = .ok (.invokevirtual 184, 3) := by decide +kernel
theorem dX11_round_15 : decode cX11_round 15 = .ok (.aload_n 0, 1) := by decide +kernel
theorem dX11_round_16 : decode cX11_round 16 = .ok (.getfield 36, 3) := by decide +kernel
theorem dX11_round_19 : decode cX11_round 19 = .ok (.invokevirtual 207, 3) := by decide +kernel
theorem dX11_round_22 : decode cX11_round 22 = .ok (.ireturn, 1) := by decide +kernel
theorem dX11_tax_0 : decode cX11_tax 0 = .ok (.aload_n 0, 1) := by decide +kernel
theorem dX11_tax_1 : decode cX11_tax 1 = .ok (.aload_n 0, 1) := by decide +kernel
theorem dX11_tax_2 : decode cX11_tax 2 = .ok (.getfield 26, 3) := by decide +kernel
theorem dX11_tax_5 : decode cX11_tax 5 = .ok (.getfield 156, 3) := by decide +kernel
theorem dX11_tax_8 : decode cX11_tax 8 = .ok (.invokevirtual 210, 3) := by decide +kernel
theorem dX11_tax_11 : decode cX11_tax 11 = .ok (.ireturn, 1) := by decide +kernel
theorem dX11_put_0 : decode cX11_put 0 = .ok (.aload_n 0, 1) := by decide +kernel
theorem dX11_put_1 : decode cX11_put 1 = .ok (.iload_n 1, 1) := by decide +kernel
theorem dX11_put_2 : decode cX11_put 2 = .ok (.invokevirtual 146, 3) := by decide +kernel
theorem dX11_put_5 : decode cX11_put 5 = .ok (.ifCond .eq 19, 3) := by decide +kernel
theorem dX11_put_8 : decode cX11_put 8 = .ok (.aload_n 0, 1) := by decide +kernel
theorem dX11_put_9 : decode cX11_put 9 = .ok (.iload_n 2, 1) := by decide +kernel
theorem dX11_put_10 : decode cX11_put 10 = .ok (.invokevirtual 146, 3) := by decide +kernel
theorem dX11_put_13 : decode cX11_put 13 = .ok (.ifCond .eq 11, 3) := by decide +kernel
theorem dX11_put_16 : decode cX11_put 16 = .ok (.aload_n 0, 1) := by decide +kernel
theorem dX11_put_17 : decode cX11_put 17 = .ok (.iload_n 3, 1) := by decide +kernel
theorem dX11_put_18 : decode cX11_put 18 = .ok (.invokevirtual 146, 3) := by decide +kernel
theorem dX11_put_21 : decode cX11_put 21 = .ok (.ifCond .ne 5, 3) := by decide +kernel
theorem dX11_put_24 : decode cX11_put 24 = .ok (.iconst (-1), 1) := by decide +kernel
theorem dX11_put_25 : decode cX11_put 25 = .ok (.ireturn, 1) := by decide +kernel
theorem dX11_put_26 : decode cX11_put 26 = .ok (.aload_n 0, 1) := by decide +kernel
theorem dX11_put_27 : decode cX11_put 27 = .ok (.getfield 26, 3) := by decide +kernel
theorem dX11_put_30 : decode cX11_put 30 = .ok (.getfield 156, 3) := by decide +kernel
theorem dX11_put_33 : decode cX11_put 33 = .ok (.getfield 214, 3) := by decide +kernel
theorem dX11_put_36 : decode cX11_put 36 = .ok (.bipush 8, 2) := by decide +kernel
theorem dX11_put_38 : decode cX11_put 38 = .ok (.if_icmp .lt 6, 3) := by decide +kernel
theorem dX11_put_41 : decode cX11_put 41 = .ok (.bipush (-3), 2) := by decide +kernel
theorem dX11_put_43 : decode cX11_put 43 = .ok (.ireturn, 1) := by decide +kernel
theorem dX11_put_44 : decode cX11_put 44 = .ok (.aload_n 0, 1) := by decide +kernel
theorem dX11_put_45 : decode cX11_put 45 = .ok (.getfield 50, 3) := by decide +kernel
theorem dX11_put_48 : decode cX11_put 48 = .ok (.iconst 0, 1) := by decide +kernel
theorem dX11_put_49 : decode cX11_put 49 = .ok (.aload_n 0, 1) := by decide +kernel
theorem dX11_put_50 : decode cX11_put 50 = .ok (.getfield 26, 3) := by decide +kernel
theorem dX11_put_53 : decode cX11_put 53 = .ok (.getfield 156, 3) := by decide +kernel
theorem dX11_put_56 : decode cX11_put 56 = .ok (.getfield 214, 3) := by decide +kernel
theorem dX11_put_59 : decode cX11_put 59 = .ok (.iload_n 1, 1) := by decide +kernel
theorem dX11_put_60 : decode cX11_put 60 = .ok (.iload_n 2, 1) := by decide +kernel
theorem dX11_put_61 : decode cX11_put 61 = .ok (.iload_n 3, 1) := by decide +kernel
theorem dX11_put_62 : decode cX11_put 62 = .ok (.invokevirtual 215, 3) := by decide +kernel
theorem dX11_put_65 : decode cX11_put 65 = .ok (.aload_n 0, 1) := by decide +kernel
theorem dX11_put_66 : decode cX11_put 66 = .ok (.getfield 26, 3) := by decide +kernel
theorem dX11_put_69 : decode cX11_put 69 = .ok (.getfield 156, 3) := by decide +kernel
theorem dX11_put_72 : decode cX11_put 72 = .ok (.aload_n 0, 1) := by decide +kernel
theorem dX11_put_73 : decode cX11_put 73 = .ok (.getfield 26, 3) := by decide +kernel
theorem dX11_put_76 : decode cX11_put 76 = .ok (.getfield 156, 3) := by decide +kernel
theorem dX11_put_79 : decode cX11_put 79 = .ok (.getfield 214, 3) := by decide +kernel
theorem dX11_put_82 : decode cX11_put 82 = .ok (.iload_n 1, 1) := by decide +kernel
theorem dX11_put_83 : decode cX11_put 83 = .ok (.iload_n 2, 1) := by decide +kernel
theorem dX11_put_84 : decode cX11_put 84 = .ok (.iload_n 3, 1) := by decide +kernel
theorem dX11_put_85 : decode cX11_put 85 = .ok (.invokevirtual 219, 3) := by decide +kernel
theorem dX11_put_88 : decode cX11_put 88 = .ok (.aload_n 0, 1) := by decide +kernel
theorem dX11_put_89 : decode cX11_put 89 = .ok (.getfield 26, 3) := by decide +kernel
theorem dX11_put_92 : decode cX11_put 92 = .ok (.getfield 156, 3) := by decide +kernel
theorem dX11_put_95 : decode cX11_put 95 = .ok (.getfield 214, 3) := by decide +kernel
theorem dX11_put_98 : decode cX11_put 98 = .ok (.ireturn, 1) := by decide +kernel
theorem dX11_take_0 : decode cX11_take 0 = .ok (.aload_n 0, 1) := by decide +kernel
theorem dX11_take_1 : decode cX11_take 1 = .ok (.iload_n 1, 1) := by decide +kernel
theorem dX11_take_2 : decode cX11_take 2 = .ok (.invokevirtual 153, 3) := by decide +kernel
theorem dX11_take_5 : decode cX11_take 5 = .ok (.ifCond .ne 5, 3) := by decide +kernel
theorem dX11_take_8 : decode cX11_take 8 = .ok (.iconst (-1), 1) := by decide +kernel
theorem dX11_take_9 : decode cX11_take 9 = .ok (.ireturn, 1) := by decide +kernel
theorem dX11_take_10 : decode cX11_take 10 = .ok (.aload_n 0, 1) := by decide +kernel
theorem dX11_take_11 : decode cX11_take 11 = .ok (.getfield 26, 3) := by decide +kernel
theorem dX11_take_14 : decode cX11_take 14 = .ok (.getfield 156, 3) := by decide +kernel
theorem dX11_take_17 : decode cX11_take 17 = .ok (.astore_n 2, 1) := by decide +kernel
theorem dX11_take_18 : decode cX11_take 18 = .ok (.aload_n 0, 1) := by decide +kernel
theorem dX11_take_19 : decode cX11_take 19 = .ok (.getfield 50, 3) := by decide +kernel
theorem dX11_take_22 : decode cX11_take 22 = .ok (.iconst 1, 1) := by decide +kernel
theorem dX11_take_23 : decode cX11_take 23 = .ok (.iload_n 1, 1) := by decide +kernel
theorem dX11_take_24 : decode cX11_take 24 = .ok (.aload_n 2, 1) := by decide +kernel
theorem dX11_take_25 : decode cX11_take 25 = .ok (.getfield 159, 3) := by decide +kernel
theorem dX11_take_28 : decode cX11_take 28 = .ok (.iload_n 1, 1) := by decide +kernel
theorem dX11_take_29 : decode cX11_take 29 = .ok (.iaload, 1) := by decide +kernel
theorem dX11_take_30 : decode cX11_take 30 = .ok (.aload_n 2, 1) := by decide +kernel
theorem dX11_take_31 : decode cX11_take 31 = .ok (.getfield 161, 3) := by decide +kernel
theorem dX11_take_34 : decode cX11_take 34 = .ok (.iload_n 1, 1) := by decide +kernel
theorem dX11_take_35 : decode cX11_take 35 = .ok (.iaload, 1) := by decide +kernel
theorem dX11_take_36 : decode cX11_take 36 = .ok (.aload_n 2, 1) := by decide +kernel
theorem dX11_take_37 : decode cX11_take 37 = .ok (.getfield 164, 3) := by decide +kernel
theorem dX11_take_40 : decode cX11_take 40 = .ok (.iload_n 1, 1) := by decide +kernel
theorem dX11_take_41 : decode cX11_take 41 = .ok (.iaload, 1) := by decide +kernel
theorem dX11_take_42 : decode cX11_take 42 = .ok (.invokevirtual 215, 3) := by decide +kernel
theorem dX11_take_45 : decode cX11_take 45 = .ok (.aload_n 2, 1) := by decide +kernel
theorem dX11_take_46 : decode cX11_take 46 = .ok (.iload_n 1, 1) := by decide +kernel
theorem dX11_take_47 : decode cX11_take 47 = .ok (.invokevirtual 223, 3) := by decide +kernel
theorem dX11_take_50 : decode cX11_take 50 = .ok (.aload_n 2, 1) := by decide +kernel
theorem dX11_take_51 : decode cX11_take 51 = .ok (.getfield 214, 3) := by decide +kernel
theorem dX11_take_54 : decode cX11_take 54 = .ok (.ireturn, 1) := by decide +kernel
theorem dX11_tell_0 : decode cX11_tell 0 = .ok (.aload_n 0, 1) := by decide +kernel
theorem dX11_tell_1 : decode cX11_tell 1 = .ok (.iload_n 1, 1) := by decide +kernel
theorem dX11_tell_2 : decode cX11_tell 2 = .ok (.invokevirtual 167, 3) := by decide +kernel
theorem dX11_tell_5 : decode cX11_tell 5 = .ok (.ifCond .eq 11, 3) := by decide +kernel
theorem dX11_tell_8 : decode cX11_tell 8 = .ok (.aload_n 0, 1) := by decide +kernel
theorem dX11_tell_9 : decode cX11_tell 9 = .ok (.iload_n 2, 1) := by decide +kernel
theorem dX11_tell_10 : decode cX11_tell 10 = .ok (.invokevirtual 146, 3) := by decide +kernel
theorem dX11_tell_13 : decode cX11_tell 13 = .ok (.ifCond .ne 5, 3) := by decide +kernel
theorem dX11_tell_16 : decode cX11_tell 16 = .ok (.iconst (-1), 1) := by decide +kernel
theorem dX11_tell_17 : decode cX11_tell 17 = .ok (.ireturn, 1) := by decide +kernel
theorem dX11_tell_18 : decode cX11_tell 18 = .ok (.aload_n 0, 1) := by decide +kernel
theorem dX11_tell_19 : decode cX11_tell 19 = .ok (.getfield 26, 3) := by decide +kernel
theorem dX11_tell_22 : decode cX11_tell 22 = .ok (.getfield 116, 3) := by decide +kernel
theorem dX11_tell_25 : decode cX11_tell 25 = .ok (.getfield 177, 3) := by decide +kernel
theorem dX11_tell_28 : decode cX11_tell 28 = .ok (.iload_n 1, 1) := by decide +kernel
theorem dX11_tell_29 : decode cX11_tell 29 = .ok (.iaload, 1) := by decide +kernel
theorem dX11_tell_30 : decode cX11_tell 30 = .ok (.istore_n 3, 1) := by decide +kernel
theorem dX11_tell_31 : decode cX11_tell 31 = .ok (.aload_n 0, 1) := by decide +kernel
theorem dX11_tell_32 : decode cX11_tell 32 = .ok (.getfield 50, 3) := by decide +kernel
theorem dX11_tell_35 : decode cX11_tell 35 = .ok (.iconst 2, 1) := by decide +kernel
theorem dX11_tell_36 : decode cX11_tell 36 = .ok (.iload_n 1, 1) := by decide +kernel
theorem dX11_tell_37 : decode cX11_tell 37 = .ok (.iconst (-1), 1) := by decide +kernel
theorem dX11_tell_38 : decode cX11_tell 38 = .ok (.iload_n 3, 1) := by decide +kernel
theorem dX11_tell_39 : decode cX11_tell 39 = .ok (.iconst (-1), 1) := by decide +kernel
theorem dX11_tell_40 : decode cX11_tell 40 = .ok (.invokevirtual 215, 3) := by decide +kernel
theorem dX11_tell_43 : decode cX11_tell 43 = .ok (.aload_n 0, 1) := by decide +kernel
theorem dX11_tell_44 : decode cX11_tell 44 = .ok (.getfield 26, 3) := by decide +kernel
theorem dX11_tell_47 : decode cX11_tell 47 = .ok (.getfield 116, 3) := by decide +kernel
theorem dX11_tell_50 : decode cX11_tell 50 = .ok (.getfield 177, 3) := by decide +kernel
theorem dX11_tell_53 : decode cX11_tell 53 = .ok (.iload_n 1, 1) := by decide +kernel
theorem dX11_tell_54 : decode cX11_tell 54 = .ok (.iload_n 2, 1) := by decide +kernel
theorem dX11_tell_55 : decode cX11_tell 55 = .ok (.iastore, 1) := by decide +kernel
theorem dX11_tell_56 : decode cX11_tell 56 = .ok (.iload_n 3, 1) := by decide +kernel
theorem dX11_tell_57 : decode cX11_tell 57 = .ok (.ireturn, 1) := by decide +kernel
theorem dX11_undo_0 : decode cX11_undo 0 = .ok (.aload_n 0, 1) := by decide +kernel
theorem dX11_undo_1 : decode cX11_undo 1 = .ok (.getfield 50, 3) := by decide +kernel
theorem dX11_undo_4 : decode cX11_undo 4 = .ok (.getfield 226, 3) := by decide +kernel
theorem dX11_undo_7 : decode cX11_undo 7 = .ok (.ifCond .ne 6, 3) := by decide +kernel
theorem dX11_undo_10 : decode cX11_undo 10 = .ok (.bipush (-2), 2) := by decide +kernel
theorem dX11_undo_12 : decode cX11_undo 12 = .ok (.ireturn, 1) := by decide +kernel
theorem dX11_undo_13 : decode cX11_undo 13 = .ok (.aload_n 0, 1) := by decide +kernel
theorem dX11_undo_14 : decode cX11_undo 14 = .ok (.getfield 50, 3) := by decide +kernel
theorem dX11_undo_17 : decode cX11_undo 17 = .ok (.aload_n 0, 1) := by decide +kernel
theorem dX11_undo_18 : decode cX11_undo 18 = .ok (.getfield 26, 3) := by decide +kernel
theorem dX11_undo_21 : decode cX11_undo 21 = .ok (.invokevirtual 227, 3) := by decide +kernel
theorem dX11_undo_24 : decode cX11_undo 24 = .ok (.aload_n 0, 1) := by decide +kernel
theorem dX11_undo_25 : decode cX11_undo 25 = .ok (.getfield 50, 3) := by decide +kernel
theorem dX11_undo_28 : decode cX11_undo 28 = .ok (.getfield 226, 3) := by decide +kernel
theorem dX11_undo_31 : decode cX11_undo 31 = .ok (.ireturn, 1) := by decide +kernel
theorem dX11_lies_0 : decode cX11_lies 0 = .ok (.aload_n 0, 1) := by decide +kernel
theorem dX11_lies_1 : decode cX11_lies 1 = .ok (.getfield 26, 3) := by decide +kernel
theorem dX11_lies_4 : decode cX11_lies 4 = .ok (.getfield 156, 3) := by decide +kernel
theorem dX11_lies_7 : decode cX11_lies 7 = .ok (.astore_n 1, 1) := by decide +kernel
theorem dX11_lies_8 : decode cX11_lies 8 = .ok (.iconst 0, 1) := by decide +kernel
theorem dX11_lies_9 : decode cX11_lies 9 = .ok (.istore_n 2, 1) := by decide +kernel
theorem dX11_lies_10 : decode cX11_lies 10 = .ok (.iconst 0, 1) := by decide +kernel
theorem dX11_lies_11 : decode cX11_lies 11 = .ok (.istore_n 3, 1) := by decide +kernel
theorem dX11_lies_12 : decode cX11_lies 12 = .ok (.iload_n 3, 1) := by decide +kernel
theorem dX11_lies_13 : decode cX11_lies 13 = .ok (.aload_n 1, 1) := by decide +kernel
theorem dX11_lies_14 : decode cX11_lies 14 = .ok (.getfield 214, 3) := by decide +kernel
theorem dX11_lies_17 : decode cX11_lies 17 = .ok (.if_icmp .ge 46, 3) := by decide +kernel
theorem dX11_lies_20 : decode cX11_lies 20 = .ok (.aload_n 0, 1) := by decide +kernel
theorem dX11_lies_21 : decode cX11_lies 21 = .ok (.getfield 26, 3) := by decide +kernel
theorem dX11_lies_24 : decode cX11_lies 24 = .ok (.getfield 125, 3) := by decide +kernel
theorem dX11_lies_27 : decode cX11_lies 27 = .ok (.aload_n 1, 1) := by decide +kernel
theorem dX11_lies_28 : decode cX11_lies 28 = .ok (.getfield 159, 3) := by decide +kernel
theorem dX11_lies_31 : decode cX11_lies 31 = .ok (.iload_n 3, 1) := by decide +kernel
theorem dX11_lies_32 : decode cX11_lies 32 = .ok (.iaload, 1) := by decide +kernel
theorem dX11_lies_33 : decode cX11_lies 33 = .ok (.aload_n 1, 1) := by decide +kernel
theorem dX11_lies_34 : decode cX11_lies 34 = .ok (.getfield 164, 3) := by decide +kernel
theorem dX11_lies_37 : decode cX11_lies 37 = .ok (.iload_n 3, 1) := by decide +kernel
theorem dX11_lies_38 : decode cX11_lies 38 = .ok (.iaload, 1) := by decide +kernel
theorem dX11_lies_39 : decode cX11_lies 39 = .ok (.aload_n 1, 1) := by decide +kernel
theorem dX11_lies_40 : decode cX11_lies 40 = .ok (.getfield 161, 3) := by decide +kernel
theorem dX11_lies_43 : decode cX11_lies 43 = .ok (.iload_n 3, 1) := by decide +kernel
theorem dX11_lies_44 : decode cX11_lies 44 = .ok (.iaload, 1) := by decide +kernel
theorem dX11_lies_45 : decode cX11_lies 45 = .ok (.invokevirtual 231, 3) := by decide +kernel
theorem dX11_lies_48 : decode cX11_lies 48 = .ok (.ifCond .ne 9, 3) := by decide +kernel
theorem dX11_lies_51 : decode cX11_lies 51 = .ok (.iload_n 2, 1) := by decide +kernel
theorem dX11_lies_52 : decode cX11_lies 52 = .ok (.iconst 1, 1) := by decide +kernel
theorem dX11_lies_53 : decode cX11_lies 53 = .ok (.iload_n 3, 1) := by decide +kernel
theorem dX11_lies_54 : decode cX11_lies 54 = .ok (.ishl, 1) := by decide +kernel
theorem dX11_lies_55 : decode cX11_lies 55 = .ok (.ior, 1) := by decide +kernel
theorem dX11_lies_56 : decode cX11_lies 56 = .ok (.istore_n 2, 1) := by decide +kernel
theorem dX11_lies_57 : decode cX11_lies 57 = .ok (.iinc 3 1, 3) := by decide +kernel
theorem dX11_lies_60 : decode cX11_lies 60 = .ok (.goto (-48), 3) := by decide +kernel
theorem dX11_lies_63 : decode cX11_lies 63 = .ok (.iload_n 2, 1) := by decide +kernel
theorem dX11_lies_64 : decode cX11_lies 64 = .ok (.ireturn, 1) := by decide +kernel
theorem dX11_lure_0 : decode cX11_lure 0 = .ok (.iload_n 1, 1) := by decide +kernel
theorem dX11_lure_1 : decode cX11_lure 1 = .ok (.iconst 2, 1) := by decide +kernel
theorem dX11_lure_2 : decode cX11_lure 2 = .ok (.invokestatic 180, 3) := by decide +kernel
theorem dX11_lure_5 : decode cX11_lure 5 = .ok (.ifCond .ne 5, 3) := by decide +kernel
theorem dX11_lure_8 : decode cX11_lure 8 = .ok (.iconst (-1), 1) := by decide +kernel
theorem dX11_lure_9 : decode cX11_lure 9 = .ok (.ireturn, 1) := by decide +kernel
theorem dX11_lure_10 : decode cX11_lure 10 = .ok (.aload_n 0, 1) := by decide +kernel
theorem dX11_lure_11 : decode cX11_lure 11 = .ok (.getfield 71, 3) := by decide +kernel
theorem dX11_lure_14 : decode cX11_lure 14 = .ok (.invokevirtual 235, 3) := by decide +kernel
theorem dX11_lure_17 : decode cX11_lure 17 = .ok (.aload_n 0, 1) := by decide +kernel
theorem dX11_lure_18 : decode cX11_lure 18 = .ok (.aload_n 0, 1) := by decide +kernel
theorem dX11_lure_19 : decode cX11_lure 19 = .ok (.getfield 26, 3) := by decide +kernel
theorem dX11_lure_22 : decode cX11_lure 22 = .ok (.getfield 156, 3) := by decide +kernel
theorem dX11_lure_25 : decode cX11_lure 25 = .ok (.invokevirtual 210, 3) := by decide +kernel
theorem dX11_lure_28 : decode cX11_lure 28 = .ok (.istore_n 2, 1) := by decide +kernel
theorem dX11_lure_29 : decode cX11_lure 29 = .ok (.aload_n 0, 1) := by decide +kernel
theorem dX11_lure_30 : decode cX11_lure 30 = .ok (.getfield 43, 3) := by decide +kernel
theorem dX11_lure_33 : decode cX11_lure 33 = .ok (.aload_n 0, 1) := by decide +kernel
theorem dX11_lure_34 : decode cX11_lure 34 = .ok (.getfield 26, 3) := by decide +kernel
theorem dX11_lure_37 : decode cX11_lure 37 = .ok (.getfield 156, 3) := by decide +kernel
theorem dX11_lure_40 : decode cX11_lure 40 = .ok (.invokevirtual 236, 3) := by decide +kernel
theorem dX11_lure_43 : decode cX11_lure 43 = .ok (.iconst 0, 1) := by decide +kernel
theorem dX11_lure_44 : decode cX11_lure 44 = .ok (.istore_n 3, 1) := by decide +kernel
theorem dX11_lure_45 : decode cX11_lure 45 = .ok (.iload_n 3, 1) := by decide +kernel
theorem dX11_lure_46 : decode cX11_lure 46 = .ok (.aload_n 0, 1) := by decide +kernel
theorem dX11_lure_47 : decode cX11_lure 47 = .ok (.getfield 26, 3) := by decide +kernel
theorem dX11_lure_50 : decode cX11_lure 50 = .ok (.getfield 125, 3) := by decide +kernel
theorem dX11_lure_53 : decode cX11_lure 53 = .ok (.getfield 143, 3) := by decide +kernel
theorem dX11_lure_56 : decode cX11_lure 56 = .ok (.if_icmp .ge 62, 3) := by decide +kernel
theorem dX11_lure_59 : decode cX11_lure 59 = .ok (.iconst 0, 1) := by decide +kernel
theorem dX11_lure_60 : decode cX11_lure 60 = .ok (.istore 4, 2) := by decide +kernel
theorem dX11_lure_62 : decode cX11_lure 62 = .ok (.iload 4, 2) := by decide +kernel
theorem dX11_lure_64 : decode cX11_lure 64 = .ok (.aload_n 0, 1) := by decide +kernel
theorem dX11_lure_65 : decode cX11_lure 65 = .ok (.getfield 26, 3) := by decide +kernel
theorem dX11_lure_68 : decode cX11_lure 68 = .ok (.getfield 125, 3) := by decide +kernel
theorem dX11_lure_71 : decode cX11_lure 71 = .ok (.getfield 143, 3) := by decide +kernel
theorem dX11_lure_74 : decode cX11_lure 74 = .ok (.if_icmp .ge 38, 3) := by decide +kernel
theorem dX11_lure_77 : decode cX11_lure 77 = .ok (.iload_n 3, 1) := by decide +kernel
theorem dX11_lure_78 : decode cX11_lure 78 = .ok (.iload 4, 2) := by decide +kernel
theorem dX11_lure_80 : decode cX11_lure 80 = .ok (.if_icmp .eq 26, 3) := by decide +kernel
theorem dX11_lure_83 : decode cX11_lure 83 = .ok (.aload_n 0, 1) := by decide +kernel
theorem dX11_lure_84 : decode cX11_lure 84 = .ok (.getfield 26, 3) := by decide +kernel
theorem dX11_lure_87 : decode cX11_lure 87 = .ok (.getfield 116, 3) := by decide +kernel
theorem dX11_lure_90 : decode cX11_lure 90 = .ok (.iload 4, 2) := by decide +kernel
theorem dX11_lure_92 : decode cX11_lure 92 = .ok (.invokevirtual 240, 3) := by decide +kernel
theorem dX11_lure_95 : decode cX11_lure 95 = .ok (.ifCond .eq 11, 3) := by decide +kernel
theorem dX11_lure_98 : decode cX11_lure 98 = .ok (.aload_n 0, 1) := by decide +kernel
theorem dX11_lure_99 : decode cX11_lure 99 = .ok (.iload_n 3, 1) := by decide +kernel
theorem dX11_lure_100 : decode cX11_lure 100 = .ok (.iload 4, 2) := by decide +kernel
theorem dX11_lure_102 : decode cX11_lure 102 = .ok (.iload_n 2, 1) := by decide +kernel
theorem dX11_lure_103 : decode cX11_lure 103 = .ok (.invokevirtual 243, 3) := by decide +kernel
theorem dX11_lure_106 : decode cX11_lure 106 = .ok (.iinc 4 1, 3) := by decide +kernel
theorem dX11_lure_109 : decode cX11_lure 109 = .ok (.goto (-47), 3) := by decide +kernel
theorem dX11_lure_112 : decode cX11_lure 112 = .ok (.iinc 3 1, 3) := by decide +kernel
theorem dX11_lure_115 : decode cX11_lure 115 = .ok (.goto (-70), 3) := by decide +kernel
theorem dX11_lure_118 : decode cX11_lure 118 = .ok (.aload_n 0, 1) := by decide +kernel
theorem dX11_lure_119 : decode cX11_lure 119 = .ok (.getfield 71, 3) := by decide +kernel
theorem dX11_lure_122 : decode cX11_lure 122 = .ok (.iload_n 1, 1) := by decide +kernel
theorem dX11_lure_123 : decode cX11_lure 123 = .ok (.invokevirtual 247, 3) := by decide +kernel
theorem dX11_lure_126 : decode cX11_lure 126 = .ok (.ireturn, 1) := by decide +kernel
theorem dX11_mend_0 : decode cX11_mend 0 = .ok (.iload_n 1, 1) := by decide +kernel
theorem dX11_mend_1 : decode cX11_mend 1 = .ok (.iconst 2, 1) := by decide +kernel
theorem dX11_mend_2 : decode cX11_mend 2 = .ok (.invokestatic 180, 3) := by decide +kernel
theorem dX11_mend_5 : decode cX11_mend 5 = .ok (.ifCond .ne 5, 3) := by decide +kernel
theorem dX11_mend_8 : decode cX11_mend 8 = .ok (.iconst (-1), 1) := by decide +kernel
theorem dX11_mend_9 : decode cX11_mend 9 = .ok (.ireturn, 1) := by decide +kernel
theorem dX11_mend_10 : decode cX11_mend 10 = .ok (.aload_n 0, 1) := by decide +kernel
theorem dX11_mend_11 : decode cX11_mend 11 = .ok (.getfield 71, 3) := by decide +kernel
theorem dX11_mend_14 : decode cX11_mend 14 = .ok (.invokevirtual 235, 3) := by decide +kernel
theorem dX11_mend_17 : decode cX11_mend 17 = .ok (.iconst 0, 1) := by decide +kernel
theorem dX11_mend_18 : decode cX11_mend 18 = .ok (.istore_n 2, 1) := by decide +kernel
theorem dX11_mend_19 : decode cX11_mend 19 = .ok (.iload_n 2, 1) := by decide +kernel
theorem dX11_mend_20 : decode cX11_mend 20 = .ok (.aload_n 0, 1) := by decide +kernel
theorem dX11_mend_21 : decode cX11_mend 21 = .ok (.getfield 26, 3) := by decide +kernel
theorem dX11_mend_24 : decode cX11_mend 24 = .ok (.getfield 156, 3) := by decide +kernel
theorem dX11_mend_27 : decode cX11_mend 27 = .ok (.getfield 214, 3) := by decide +kernel
theorem dX11_mend_30 : decode cX11_mend 30 = .ok (.if_icmp .ge 47, 3) := by decide +kernel
theorem dX11_mend_33 : decode cX11_mend 33 = .ok (.aload_n 0, 1) := by decide +kernel
theorem dX11_mend_34 : decode cX11_mend 34 = .ok (.getfield 43, 3) := by decide +kernel
theorem dX11_mend_37 : decode cX11_mend 37 = .ok (.aload_n 0, 1) := by decide +kernel
theorem dX11_mend_38 : decode cX11_mend 38 = .ok (.getfield 26, 3) := by decide +kernel
theorem dX11_mend_41 : decode cX11_mend 41 = .ok (.getfield 156, 3) := by decide +kernel
theorem dX11_mend_44 : decode cX11_mend 44 = .ok (.invokevirtual 236, 3) := by decide +kernel
theorem dX11_mend_47 : decode cX11_mend 47 = .ok (.aload_n 0, 1) := by decide +kernel
theorem dX11_mend_48 : decode cX11_mend 48 = .ok (.getfield 43, 3) := by decide +kernel
theorem dX11_mend_51 : decode cX11_mend 51 = .ok (.iload_n 2, 1) := by decide +kernel
theorem dX11_mend_52 : decode cX11_mend 52 = .ok (.invokevirtual 223, 3) := by decide +kernel
theorem dX11_mend_55 : decode cX11_mend 55 = .ok (.aload_n 0, 1) := by decide +kernel
theorem dX11_mend_56 : decode cX11_mend 56 = .ok (.getfield 71, 3) := by decide +kernel
theorem dX11_mend_59 : decode cX11_mend 59 = .ok (.iload_n 2, 1) := by decide +kernel
theorem dX11_mend_60 : decode cX11_mend 60 = .ok (.aload_n 0, 1) := by decide +kernel
theorem dX11_mend_61 : decode cX11_mend 61 = .ok (.aload_n 0, 1) := by decide +kernel
theorem dX11_mend_62 : decode cX11_mend 62 = .ok (.getfield 43, 3) := by decide +kernel
theorem dX11_mend_65 : decode cX11_mend 65 = .ok (.invokevirtual 210, 3) := by decide +kernel
theorem dX11_mend_68 : decode cX11_mend 68 = .ok (.invokevirtual 250, 3) := by decide +kernel
theorem dX11_mend_71 : decode cX11_mend 71 = .ok (.iinc 2 1, 3) := by decide +kernel
theorem dX11_mend_74 : decode cX11_mend 74 = .ok (.goto (-55), 3) := by decide +kernel
theorem dX11_mend_77 : decode cX11_mend 77 = .ok (.aload_n 0, 1) := by decide +kernel
theorem dX11_mend_78 : decode cX11_mend 78 = .ok (.getfield 71, 3) := by decide +kernel
theorem dX11_mend_81 : decode cX11_mend 81 = .ok (.iload_n 1, 1) := by decide +kernel
theorem dX11_mend_82 : decode cX11_mend 82 = .ok (.invokevirtual 247, 3) := by decide +kernel
theorem dX11_mend_85 : decode cX11_mend 85 = .ok (.ireturn, 1) := by decide +kernel
theorem dX11_best_0 : decode cX11_best 0 = .ok (.aload_n 0, 1) := by decide +kernel
theorem dX11_best_1 : decode cX11_best 1 = .ok (.iload_n 1, 1) := by decide +kernel
theorem dX11_best_2 : decode cX11_best 2 = .ok (.invokevirtual 167, 3) := by decide +kernel
theorem dX11_best_5 : decode cX11_best 5 = .ok (.ifCond .eq 11, 3) := by decide +kernel
theorem dX11_best_8 : decode cX11_best 8 = .ok (.iload_n 2, 1) := by decide +kernel
theorem dX11_best_9 : decode cX11_best 9 = .ok (.iconst 2, 1) := by decide +kernel
theorem dX11_best_10 : decode cX11_best 10 = .ok (.invokestatic 180, 3) := by decide +kernel
theorem dX11_best_13 : decode cX11_best 13 = .ok (.ifCond .ne 5, 3) := by decide +kernel
theorem dX11_best_16 : decode cX11_best 16 = .ok (.iconst (-1), 1) := by decide +kernel
theorem dX11_best_17 : decode cX11_best 17 = .ok (.ireturn, 1) := by decide +kernel
theorem dX11_best_18 : decode cX11_best 18 = .ok (.aload_n 0, 1) := by decide +kernel
theorem dX11_best_19 : decode cX11_best 19 = .ok (.getfield 26, 3) := by decide +kernel
theorem dX11_best_22 : decode cX11_best 22 = .ok (.getfield 116, 3) := by decide +kernel
theorem dX11_best_25 : decode cX11_best 25 = .ok (.astore_n 3, 1) := by decide +kernel
theorem dX11_best_26 : decode cX11_best 26 = .ok (.aload_n 0, 1) := by decide +kernel
theorem dX11_best_27 : decode cX11_best 27 = .ok (.getfield 71, 3) := by decide +kernel
theorem dX11_best_30 : decode cX11_best 30 = .ok (.invokevirtual 235, 3) := by decide +kernel
theorem dX11_best_33 : decode cX11_best 33 = .ok (.iconst 0, 1) := by decide +kernel
theorem dX11_best_34 : decode cX11_best 34 = .ok (.istore 4, 2) := by decide +kernel
theorem dX11_best_36 : decode cX11_best 36 = .ok (.iload 4, 2) := by decide +kernel
theorem dX11_best_38 : decode cX11_best 38 = .ok (.aload_n 0, 1) := by decide +kernel
theorem dX11_best_39 : decode cX11_best 39 = .ok (.getfield 26, 3) := by decide +kernel
theorem dX11_best_42 : decode cX11_best 42 = .ok (.getfield 125, 3) := by decide +kernel
theorem dX11_best_45 : decode cX11_best 45 = .ok (.getfield 143, 3) := by decide +kernel
theorem dX11_best_48 : decode cX11_best 48 = .ok (.if_icmp .ge 63, 3) := by decide +kernel
theorem dX11_best_51 : decode cX11_best 51 = .ok (.aload_n 0, 1) := by decide +kernel
theorem dX11_best_52 : decode cX11_best 52 = .ok (.getfield 36, 3) := by decide +kernel
theorem dX11_best_55 : decode cX11_best 55 = .ok (.aload_n 0, 1) := by decide +kernel
theorem dX11_best_56 : decode cX11_best 56 = .ok (.getfield 26, 3) := by decide +kernel
theorem dX11_best_59 : decode cX11_best 59 = .ok (.aload_n 0, 1) := by decide +kernel
theorem dX11_best_60 : decode cX11_best 60 = .ok (.getfield 26, 3) := by decide +kernel
theorem dX11_best_63 : decode cX11_best 63 = .ok (.getfield 156, 3) := by decide +kernel
theorem dX11_best_66 : decode cX11_best 66 = .ok (.aload_n 3, 1) := by decide +kernel
theorem dX11_best_67 : decode cX11_best 67 = .ok (.getfield 170, 3) := by decide +kernel
theorem dX11_best_70 : decode cX11_best 70 = .ok (.iload_n 1, 1) := by decide +kernel
theorem dX11_best_71 : decode cX11_best 71 = .ok (.iaload, 1) := by decide +kernel
theorem dX11_best_72 : decode cX11_best 72 = .ok (.aload_n 3, 1) := by decide +kernel
theorem dX11_best_73 : decode cX11_best 73 = .ok (.getfield 173, 3) := by decide +kernel
theorem dX11_best_76 : decode cX11_best 76 = .ok (.iload_n 1, 1) := by decide +kernel
theorem dX11_best_77 : decode cX11_best 77 = .ok (.iaload, 1) := by decide +kernel
theorem dX11_best_78 : decode cX11_best 78 = .ok (.aload_n 3, 1) := by decide +kernel
theorem dX11_best_79 : decode cX11_best 79 = .ok (.getfield 176, 3) := by decide +kernel
theorem dX11_best_82 : decode cX11_best 82 = .ok (.iload_n 1, 1) := by decide +kernel
theorem dX11_best_83 : decode cX11_best 83 = .ok (.iaload, 1) := by decide +kernel
theorem dX11_best_84 : decode cX11_best 84 = .ok (.iload 4, 2) := by decide +kernel
theorem dX11_best_86 : decode cX11_best 86 = .ok (.invokevirtual 254, 3) := by decide +kernel
theorem dX11_best_89 : decode cX11_best 89 = .ok (.aload_n 0, 1) := by decide +kernel
theorem dX11_best_90 : decode cX11_best 90 = .ok (.getfield 71, 3) := by decide +kernel
theorem dX11_best_93 : decode cX11_best 93 = .ok (.iload 4, 2) := by decide +kernel
theorem dX11_best_95 : decode cX11_best 95 = .ok (.aload_n 0, 1) := by decide +kernel
theorem dX11_best_96 : decode cX11_best 96 = .ok (.getfield 36, 3) := by decide +kernel
theorem dX11_best_99 : decode cX11_best 99 = .ok (.getfield 200, 3) := by decide +kernel
theorem dX11_best_102 : decode cX11_best 102 = .ok (.invokevirtual 250, 3) := by decide +kernel
theorem dX11_best_105 : decode cX11_best 105 = .ok (.iinc 4 1, 3) := by decide +kernel
theorem dX11_best_108 : decode cX11_best 108 = .ok (.goto (-72), 3) := by decide +kernel
theorem dX11_best_111 : decode cX11_best 111 = .ok (.aload_n 0, 1) := by decide +kernel
theorem dX11_best_112 : decode cX11_best 112 = .ok (.getfield 71, 3) := by decide +kernel
theorem dX11_best_115 : decode cX11_best 115 = .ok (.iload_n 2, 1) := by decide +kernel
theorem dX11_best_116 : decode cX11_best 116 = .ok (.invokevirtual 247, 3) := by decide +kernel
theorem dX11_best_119 : decode cX11_best 119 = .ok (.ireturn, 1) := by decide +kernel
theorem dX11_watch_0 : decode cX11_watch 0 = .ok (.iload_n 1, 1) := by decide +kernel
theorem dX11_watch_1 : decode cX11_watch 1 = .ok (.iconst 2, 1) := by decide +kernel
theorem dX11_watch_2 : decode cX11_watch 2 = .ok (.invokestatic 180, 3) := by decide +kernel
theorem dX11_watch_5 : decode cX11_watch 5 = .ok (.ifCond .ne 5, 3) := by decide +kernel
theorem dX11_watch_8 : decode cX11_watch 8 = .ok (.iconst (-1), 1) := by decide +kernel
theorem dX11_watch_9 : decode cX11_watch 9 = .ok (.ireturn, 1) := by decide +kernel
theorem dX11_watch_10 : decode cX11_watch 10 = .ok (.aload_n 0, 1) := by decide +kernel
theorem dX11_watch_11 : decode cX11_watch 11 = .ok (.getfield 80, 3) := by decide +kernel
theorem dX11_watch_14 : decode cX11_watch 14 = .ok (.iconst 0, 1) := by decide +kernel
theorem dX11_watch_15 : decode cX11_watch 15 = .ok (.invokestatic 258, 3) := by decide +kernel
theorem dX11_watch_18 : decode cX11_watch 18 = .ok (.iconst 0, 1) := by decide +kernel
theorem dX11_watch_19 : decode cX11_watch 19 = .ok (.istore_n 2, 1) := by decide +kernel
theorem dX11_watch_20 : decode cX11_watch 20 = .ok (.iload_n 2, 1) := by decide +kernel
theorem dX11_watch_21 : decode cX11_watch 21 = .ok (.aload_n 0, 1) := by decide +kernel
theorem dX11_watch_22 : decode cX11_watch 22 = .ok (.getfield 26, 3) := by decide +kernel
theorem dX11_watch_25 : decode cX11_watch 25 = .ok (.getfield 116, 3) := by decide +kernel
theorem dX11_watch_28 : decode cX11_watch 28 = .ok (.getfield 120, 3) := by decide +kernel
theorem dX11_watch_31 : decode cX11_watch 31 = .ok (.if_icmp .ge 25, 3) := by decide +kernel
theorem dX11_watch_34 : decode cX11_watch 34 = .ok (.aload_n 0, 1) := by decide +kernel
theorem dX11_watch_35 : decode cX11_watch 35 = .ok (.iload_n 2, 1) := by decide +kernel
theorem dX11_watch_36 : decode cX11_watch 36 = .ok (.invokevirtual 184, 3) := by decide +kernel
theorem dX11_watch_39 : decode cX11_watch 39 = .ok (.aload_n 0, 1) := by decide +kernel
theorem dX11_watch_40 : decode cX11_watch 40 = .ok (.getfield 36, 3) := by decide +kernel
theorem dX11_watch_43 : decode cX11_watch 43 = .ok (.aload_n 0, 1) := by decide +kernel
theorem dX11_watch_44 : decode cX11_watch 44 = .ok (.getfield 80, 3) := by decide +kernel
theorem dX11_watch_47 : decode cX11_watch 47 = .ok (.invokevirtual 264, 3) := by decide +kernel
theorem dX11_watch_50 : decode cX11_watch 50 = .ok (.iinc 2 1, 3) := by decide +kernel
theorem dX11_watch_53 : decode cX11_watch 53 = .ok (.goto (-33), 3) := by decide +kernel
theorem dX11_watch_56 : decode cX11_watch 56 = .ok (.aload_n 0, 1) := by decide +kernel
theorem dX11_watch_57 : decode cX11_watch 57 = .ok (.getfield 71, 3) := by decide +kernel
theorem dX11_watch_60 : decode cX11_watch 60 = .ok (.invokevirtual 235, 3) := by decide +kernel
theorem dX11_watch_63 : decode cX11_watch 63 = .ok (.iconst 0, 1) := by decide +kernel
theorem dX11_watch_64 : decode cX11_watch 64 = .ok (.istore_n 2, 1) := by decide +kernel
theorem dX11_watch_65 : decode cX11_watch 65 = .ok (.iload_n 2, 1) := by decide +kernel
theorem dX11_watch_66 : decode cX11_watch 66 = .ok (.aload_n 0, 1) := by decide +kernel
theorem dX11_watch_67 : decode cX11_watch 67 = .ok (.getfield 26, 3) := by decide +kernel
theorem dX11_watch_70 : decode cX11_watch 70 = .ok (.getfield 125, 3) := by decide +kernel
theorem dX11_watch_73 : decode cX11_watch 73 = .ok (.getfield 143, 3) := by decide +kernel
theorem dX11_watch_76 : decode cX11_watch 76 = .ok (.if_icmp .ge 23, 3) := by decide +kernel
theorem dX11_watch_79 : decode cX11_watch 79 = .ok (.aload_n 0, 1) := by decide +kernel
theorem dX11_watch_80 : decode cX11_watch 80 = .ok (.getfield 71, 3) := by decide +kernel
theorem dX11_watch_83 : decode cX11_watch 83 = .ok (.iload_n 2, 1) := by decide +kernel
theorem dX11_watch_84 : decode cX11_watch 84 = .ok (.aload_n 0, 1) := by decide +kernel
theorem dX11_watch_85 : decode cX11_watch 85 = .ok (.getfield 80, 3) := by decide +kernel
theorem dX11_watch_88 : decode cX11_watch 88 = .ok (.iload_n 2, 1) := by decide +kernel
theorem dX11_watch_89 : decode cX11_watch 89 = .ok (.iaload, 1) := by decide +kernel
theorem dX11_watch_90 : decode cX11_watch 90 = .ok (.invokevirtual 268, 3) := by decide +kernel
theorem dX11_watch_93 : decode cX11_watch 93 = .ok (.iinc 2 1, 3) := by decide +kernel
theorem dX11_watch_96 : decode cX11_watch 96 = .ok (.goto (-31), 3) := by decide +kernel
theorem dX11_watch_99 : decode cX11_watch 99 = .ok (.aload_n 0, 1) := by decide +kernel
theorem dX11_watch_100 : decode cX11_watch 100 = .ok (.getfield 71, 3) := by decide +kernel
theorem dX11_watch_103 : decode cX11_watch 103 = .ok (.iload_n 1, 1) := by decide +kernel
theorem dX11_watch_104 : decode cX11_watch 104 = .ok (.invokevirtual 247, 3) := by decide +kernel
theorem dX11_watch_107 : decode cX11_watch 107 = .ok (.ireturn, 1) := by decide +kernel
theorem dX11_missed_0 : decode cX11_missed 0 = .ok (.iload_n 1, 1) := by decide +kernel
theorem dX11_missed_1 : decode cX11_missed 1 = .ok (.iconst 2, 1) := by decide +kernel
theorem dX11_missed_2 : decode cX11_missed 2 = .ok (.invokestatic 180, 3) := by decide +kernel
theorem dX11_missed_5 : decode cX11_missed 5 = .ok (.ifCond .ne 5, 3) := by decide +kernel
theorem dX11_missed_8 : decode cX11_missed 8 = .ok (.iconst (-1), 1) := by decide +kernel
theorem dX11_missed_9 : decode cX11_missed 9 = .ok (.ireturn, 1) := by decide +kernel
theorem dX11_missed_10 : decode cX11_missed 10 = .ok (.aload_n 0, 1) := by decide +kernel
theorem dX11_missed_11 : decode cX11_missed 11 = .ok (.getfield 26, 3) := by decide +kernel
theorem dX11_missed_14 : decode cX11_missed 14 = .ok (.aload_n 0, 1) := by decide +kernel
theorem dX11_missed_15 : decode cX11_missed 15 = .ok (.getfield 26, 3) := by decide +kernel
theorem dX11_missed_18 : decode cX11_missed 18 = .ok (.getfield 125, 3) := by decide +kernel
theorem dX11_missed_21 : decode cX11_missed 21 = .ok (.getfield 129, 3) := by decide +kernel
theorem dX11_missed_24 : decode cX11_missed 24 = .ok (.invokevirtual 271, 3) := by decide +kernel
theorem dX11_missed_27 : decode cX11_missed 27 = .ok (.istore_n 2, 1) := by decide +kernel
theorem dX11_missed_28 : decode cX11_missed 28 = .ok (.aload_n 0, 1) := by decide +kernel
theorem dX11_missed_29 : decode cX11_missed 29 = .ok (.getfield 71, 3) := by decide +kernel
theorem dX11_missed_32 : decode cX11_missed 32 = .ok (.invokevirtual 235, 3) := by decide +kernel
theorem dX11_missed_35 : decode cX11_missed 35 = .ok (.iconst 0, 1) := by decide +kernel
theorem dX11_missed_36 : decode cX11_missed 36 = .ok (.istore_n 3, 1) := by decide +kernel
theorem dX11_missed_37 : decode cX11_missed 37 = .ok (.iload_n 3, 1) := by decide +kernel
theorem dX11_missed_38 : decode cX11_missed 38 = .ok (.aload_n 0, 1) := by decide +kernel
theorem dX11_missed_39 : decode cX11_missed 39 = .ok (.getfield 26, 3) := by decide +kernel
theorem dX11_missed_42 : decode cX11_missed 42 = .ok (.getfield 125, 3) := by decide +kernel
theorem dX11_missed_45 : decode cX11_missed 45 = .ok (.getfield 275, 3) := by decide +kernel
theorem dX11_missed_48 : decode cX11_missed 48 = .ok (.if_icmp .ge 45, 3) := by decide +kernel
theorem dX11_missed_51 : decode cX11_missed 51 = .ok (.aload_n 0, 1) := by decide +kernel
theorem dX11_missed_52 : decode cX11_missed 52 = .ok (.getfield 26, 3) := by decide +kernel
theorem dX11_missed_55 : decode cX11_missed 55 = .ok (.getfield 125, 3) := by decide +kernel
theorem dX11_missed_58 : decode cX11_missed 58 = .ok (.aload_n 0, 1) := by decide +kernel
theorem dX11_missed_59 : decode cX11_missed 59 = .ok (.getfield 77, 3) := by decide +kernel
theorem dX11_missed_62 : decode cX11_missed 62 = .ok (.iload_n 3, 1) := by decide +kernel
theorem dX11_missed_63 : decode cX11_missed 63 = .ok (.invokevirtual 134, 3) := by decide +kernel
theorem dX11_missed_66 : decode cX11_missed 66 = .ok (.aload_n 0, 1) := by decide +kernel
theorem dX11_missed_67 : decode cX11_missed 67 = .ok (.getfield 71, 3) := by decide +kernel
theorem dX11_missed_70 : decode cX11_missed 70 = .ok (.iload_n 3, 1) := by decide +kernel
theorem dX11_missed_71 : decode cX11_missed 71 = .ok (.aload_n 0, 1) := by decide +kernel
theorem dX11_missed_72 : decode cX11_missed 72 = .ok (.getfield 26, 3) := by decide +kernel
theorem dX11_missed_75 : decode cX11_missed 75 = .ok (.aload_n 0, 1) := by decide +kernel
theorem dX11_missed_76 : decode cX11_missed 76 = .ok (.getfield 77, 3) := by decide +kernel
theorem dX11_missed_79 : decode cX11_missed 79 = .ok (.invokevirtual 271, 3) := by decide +kernel
theorem dX11_missed_82 : decode cX11_missed 82 = .ok (.iload_n 2, 1) := by decide +kernel
theorem dX11_missed_83 : decode cX11_missed 83 = .ok (.isub, 1) := by decide +kernel
theorem dX11_missed_84 : decode cX11_missed 84 = .ok (.invokevirtual 268, 3) := by decide +kernel
theorem dX11_missed_87 : decode cX11_missed 87 = .ok (.iinc 3 1, 3) := by decide +kernel
theorem dX11_missed_90 : decode cX11_missed 90 = .ok (.goto (-53), 3) := by decide +kernel
theorem dX11_missed_93 : decode cX11_missed 93 = .ok (.aload_n 0, 1) := by decide +kernel
theorem dX11_missed_94 : decode cX11_missed 94 = .ok (.getfield 71, 3) := by decide +kernel
theorem dX11_missed_97 : decode cX11_missed 97 = .ok (.iload_n 1, 1) := by decide +kernel
theorem dX11_missed_98 : decode cX11_missed 98 = .ok (.invokevirtual 247, 3) := by decide +kernel
theorem dX11_missed_101 : decode cX11_missed 101 = .ok (.ireturn, 1) := by decide +kernel
theorem dX11_seen_0 : decode cX11_seen 0 = .ok (.aload_n 0, 1) := by decide +kernel
theorem dX11_seen_1 : decode cX11_seen 1 = .ok (.iload_n 1, 1) := by decide +kernel
theorem dX11_seen_2 : decode cX11_seen 2 = .ok (.invokevirtual 167, 3) := by decide +kernel
theorem dX11_seen_5 : decode cX11_seen 5 = .ok (.ifCond .eq 20, 3) := by decide +kernel
theorem dX11_seen_8 : decode cX11_seen 8 = .ok (.aload_n 0, 1) := by decide +kernel
theorem dX11_seen_9 : decode cX11_seen 9 = .ok (.iload_n 2, 1) := by decide +kernel
theorem dX11_seen_10 : decode cX11_seen 10 = .ok (.invokevirtual 146, 3) := by decide +kernel
theorem dX11_seen_13 : decode cX11_seen 13 = .ok (.ifCond .eq 12, 3) := by decide +kernel
theorem dX11_seen_16 : decode cX11_seen 16 = .ok (.iload_n 3, 1) := by decide +kernel
theorem dX11_seen_17 : decode cX11_seen 17 = .ok (.bipush 31, 2) := by decide +kernel
theorem dX11_seen_19 : decode cX11_seen 19 = .ok (.invokestatic 180, 3) := by decide +kernel
theorem dX11_seen_22 : decode cX11_seen 22 = .ok (.ifCond .ne 5, 3) := by decide +kernel
theorem dX11_seen_25 : decode cX11_seen 25 = .ok (.iconst (-1), 1) := by decide +kernel
theorem dX11_seen_26 : decode cX11_seen 26 = .ok (.ireturn, 1) := by decide +kernel
theorem dX11_seen_27 : decode cX11_seen 27 = .ok (.aload_n 0, 1) := by decide +kernel
theorem dX11_seen_28 : decode cX11_seen 28 = .ok (.getfield 64, 3) := by decide +kernel
theorem dX11_seen_31 : decode cX11_seen 31 = .ok (.getfield 142, 3) := by decide +kernel
theorem dX11_seen_34 : decode cX11_seen 34 = .ok (.bipush 8, 2) := by decide +kernel
theorem dX11_seen_36 : decode cX11_seen 36 = .ok (.if_icmp .lt 6, 3) := by decide +kernel
theorem dX11_seen_39 : decode cX11_seen 39 = .ok (.bipush (-3), 2) := by decide +kernel
theorem dX11_seen_41 : decode cX11_seen 41 = .ok (.ireturn, 1) := by decide +kernel
theorem dX11_seen_42 : decode cX11_seen 42 = .ok (.aload_n 0, 1) := by decide +kernel
theorem dX11_seen_43 : decode cX11_seen 43 = .ok (.getfield 64, 3) := by decide +kernel
theorem dX11_seen_46 : decode cX11_seen 46 = .ok (.iload_n 1, 1) := by decide +kernel
theorem dX11_seen_47 : decode cX11_seen 47 = .ok (.iload_n 2, 1) := by decide +kernel
theorem dX11_seen_48 : decode cX11_seen 48 = .ok (.iload_n 3, 1) := by decide +kernel
theorem dX11_seen_49 : decode cX11_seen 49 = .ok (.invokevirtual 276, 3) := by decide +kernel
theorem dX11_seen_52 : decode cX11_seen 52 = .ok (.aload_n 0, 1) := by decide +kernel
theorem dX11_seen_53 : decode cX11_seen 53 = .ok (.getfield 64, 3) := by decide +kernel
theorem dX11_seen_56 : decode cX11_seen 56 = .ok (.getfield 142, 3) := by decide +kernel
theorem dX11_seen_59 : decode cX11_seen 59 = .ok (.ireturn, 1) := by decide +kernel
theorem dX11_forget_0 : decode cX11_forget 0 = .ok (.aload_n 0, 1) := by decide +kernel
theorem dX11_forget_1 : decode cX11_forget 1 = .ok (.getfield 64, 3) := by decide +kernel
theorem dX11_forget_4 : decode cX11_forget 4 = .ok (.getfield 142, 3) := by decide +kernel
theorem dX11_forget_7 : decode cX11_forget 7 = .ok (.istore_n 1, 1) := by decide +kernel
theorem dX11_forget_8 : decode cX11_forget 8 = .ok (.aload_n 0, 1) := by decide +kernel
theorem dX11_forget_9 : decode cX11_forget 9 = .ok (.getfield 64, 3) := by decide +kernel
theorem dX11_forget_12 : decode cX11_forget 12 = .ok (.iconst 0, 1) := by decide +kernel
theorem dX11_forget_13 : decode cX11_forget 13 = .ok (.putfield 142, 3) := by decide +kernel
theorem dX11_forget_16 : decode cX11_forget 16 = .ok (.iload_n 1, 1) := by decide +kernel
theorem dX11_forget_17 : decode cX11_forget 17 = .ok (.ireturn, 1) := by decide +kernel
theorem dX11_kinds_0 : decode cX11_kinds 0 = .ok (.aload_n 0, 1) := by decide +kernel
theorem dX11_kinds_1 : decode cX11_kinds 1 = .ok (.iload_n 1, 1) := by decide +kernel
theorem dX11_kinds_2 : decode cX11_kinds 2 = .ok (.invokevirtual 167, 3) := by decide +kernel
theorem dX11_kinds_5 : decode cX11_kinds 5 = .ok (.ifCond .ne 5, 3) := by decide +kernel
theorem dX11_kinds_8 : decode cX11_kinds 8 = .ok (.iconst (-1), 1) := by decide +kernel
theorem dX11_kinds_9 : decode cX11_kinds 9 = .ok (.ireturn, 1) := by decide +kernel
theorem dX11_kinds_10 : decode cX11_kinds 10 = .ok (.aload_n 0, 1) := by decide +kernel
theorem dX11_kinds_11 : decode cX11_kinds 11 = .ok (.getfield 26, 3) := by decide +kernel
theorem dX11_kinds_14 : decode cX11_kinds 14 = .ok (.getfield 116, 3) := by decide +kernel
theorem dX11_kinds_17 : decode cX11_kinds 17 = .ok (.astore_n 2, 1) := by decide +kernel
theorem dX11_kinds_18 : decode cX11_kinds 18 = .ok (.iconst 0, 1) := by decide +kernel
theorem dX11_kinds_19 : decode cX11_kinds 19 = .ok (.istore_n 3, 1) := by decide +kernel
theorem dX11_kinds_20 : decode cX11_kinds 20 = .ok (.iconst 0, 1) := by decide +kernel
theorem dX11_kinds_21 : decode cX11_kinds 21 = .ok (.istore 4, 2) := by decide +kernel
theorem dX11_kinds_23 : decode cX11_kinds 23 = .ok (.iload 4, 2) := by decide +kernel
theorem dX11_kinds_25 : decode cX11_kinds 25 = .ok (.iconst 4, 1) := by decide +kernel
theorem dX11_kinds_26 : decode cX11_kinds 26 = .ok (.if_icmp .ge 69, 3) := by decide +kernel
theorem dX11_kinds_29 : decode cX11_kinds 29 = .ok (.aload_n 0, 1) := by decide +kernel
theorem dX11_kinds_30 : decode cX11_kinds 30 = .ok (.getfield 36, 3) := by decide +kernel
theorem dX11_kinds_33 : decode cX11_kinds 33 = .ok (.aload_n 0, 1) := by decide +kernel
theorem dX11_kinds_34 : decode cX11_kinds 34 = .ok (.getfield 26, 3) := by decide +kernel
theorem dX11_kinds_37 : decode cX11_kinds 37 = .ok (.aload_n 0, 1) := by decide +kernel
theorem dX11_kinds_38 : decode cX11_kinds 38 = .ok (.getfield 26, 3) := by decide +kernel
theorem dX11_kinds_41 : decode cX11_kinds 41 = .ok (.getfield 156, 3) := by decide +kernel
theorem dX11_kinds_44 : decode cX11_kinds 44 = .ok (.iload 4, 2) := by decide +kernel
theorem dX11_kinds_46 : decode cX11_kinds 46 = .ok (.aload_n 2, 1) := by decide +kernel
theorem dX11_kinds_47 : decode cX11_kinds 47 = .ok (.getfield 173, 3) := by decide +kernel
theorem dX11_kinds_50 : decode cX11_kinds 50 = .ok (.iload_n 1, 1) := by decide +kernel
theorem dX11_kinds_51 : decode cX11_kinds 51 = .ok (.iaload, 1) := by decide +kernel
theorem dX11_kinds_52 : decode cX11_kinds 52 = .ok (.aload_n 2, 1) := by decide +kernel
theorem dX11_kinds_53 : decode cX11_kinds 53 = .ok (.getfield 176, 3) := by decide +kernel
theorem dX11_kinds_56 : decode cX11_kinds 56 = .ok (.iload_n 1, 1) := by decide +kernel
theorem dX11_kinds_57 : decode cX11_kinds 57 = .ok (.iaload, 1) := by decide +kernel
theorem dX11_kinds_58 : decode cX11_kinds 58 = .ok (.aload_n 2, 1) := by decide +kernel
theorem dX11_kinds_59 : decode cX11_kinds 59 = .ok (.getfield 177, 3) := by decide +kernel
theorem dX11_kinds_62 : decode cX11_kinds 62 = .ok (.iload_n 1, 1) := by decide +kernel
theorem dX11_kinds_63 : decode cX11_kinds 63 = .ok (.iaload, 1) := by decide +kernel
theorem dX11_kinds_64 : decode cX11_kinds 64 = .ok (.invokevirtual 254, 3) := by decide +kernel
theorem dX11_kinds_67 : decode cX11_kinds 67 = .ok (.aload_n 0, 1) := by decide +kernel
theorem dX11_kinds_68 : decode cX11_kinds 68 = .ok (.getfield 64, 3) := by decide +kernel
theorem dX11_kinds_71 : decode cX11_kinds 71 = .ok (.iload_n 1, 1) := by decide +kernel
theorem dX11_kinds_72 : decode cX11_kinds 72 = .ok (.aload_n 0, 1) := by decide +kernel
theorem dX11_kinds_73 : decode cX11_kinds 73 = .ok (.getfield 36, 3) := by decide +kernel
theorem dX11_kinds_76 : decode cX11_kinds 76 = .ok (.invokevirtual 279, 3) := by decide +kernel
theorem dX11_kinds_79 : decode cX11_kinds 79 = .ok (.ifCond .eq 10, 3) := by decide +kernel
theorem dX11_kinds_82 : decode cX11_kinds 82 = .ok (.iload_n 3, 1) := by decide +kernel
theorem dX11_kinds_83 : decode cX11_kinds 83 = .ok (.iconst 1, 1) := by decide +kernel
theorem dX11_kinds_84 : decode cX11_kinds 84 = .ok (.iload 4, 2) := by decide +kernel
theorem dX11_kinds_86 : decode cX11_kinds 86 = .ok (.ishl, 1) := by decide +kernel
theorem dX11_kinds_87 : decode cX11_kinds 87 = .ok (.ior, 1) := by decide +kernel
theorem dX11_kinds_88 : decode cX11_kinds 88 = .ok (.istore_n 3, 1) := by decide +kernel
theorem dX11_kinds_89 : decode cX11_kinds 89 = .ok (.iinc 4 1, 3) := by decide +kernel
theorem dX11_kinds_92 : decode cX11_kinds 92 = .ok (.goto (-69), 3) := by decide +kernel
theorem dX11_kinds_95 : decode cX11_kinds 95 = .ok (.iload_n 3, 1) := by decide +kernel
theorem dX11_kinds_96 : decode cX11_kinds 96 = .ok (.ireturn, 1) := by decide +kernel
theorem dX11_paid_0 : decode cX11_paid 0 = .ok (.iload_n 1, 1) := by decide +kernel
theorem dX11_paid_1 : decode cX11_paid 1 = .ok (.sipush 1000, 3) := by decide +kernel
theorem dX11_paid_4 : decode cX11_paid 4 = .ok (.invokestatic 180, 3) := by decide +kernel
theorem dX11_paid_7 : decode cX11_paid 7 = .ok (.ifCond .eq 11, 3) := by decide +kernel
theorem dX11_paid_10 : decode cX11_paid 10 = .ok (.iload_n 2, 1) := by decide +kernel
theorem dX11_paid_11 : decode cX11_paid 11 = .ok (.iconst 2, 1) := by decide +kernel
theorem dX11_paid_12 : decode cX11_paid 12 = .ok (.invokestatic 180, 3) := by decide +kernel
theorem dX11_paid_15 : decode cX11_paid 15 = .ok (.ifCond .ne 5, 3) := by decide +kernel
theorem dX11_paid_18 : decode cX11_paid 18 = .ok (.iconst (-1), 1) := by decide +kernel
theorem dX11_paid_19 : decode cX11_paid 19 = .ok (.ireturn, 1) := by decide +kernel
theorem dX11_paid_20 : decode cX11_paid 20 = .ok (.aload_n 0, 1) := by decide +kernel
theorem dX11_paid_21 : decode cX11_paid 21 = .ok (.getfield 26, 3) := by decide +kernel
theorem dX11_paid_24 : decode cX11_paid 24 = .ok (.getfield 116, 3) := by decide +kernel
theorem dX11_paid_27 : decode cX11_paid 27 = .ok (.getfield 120, 3) := by decide +kernel
theorem dX11_paid_30 : decode cX11_paid 30 = .ok (.istore_n 3, 1) := by decide +kernel
theorem dX11_paid_31 : decode cX11_paid 31 = .ok (.iconst 0, 1) := by decide +kernel
theorem dX11_paid_32 : decode cX11_paid 32 = .ok (.istore 4, 2) := by decide +kernel
theorem dX11_paid_34 : decode cX11_paid 34 = .ok (.iload 4, 2) := by decide +kernel
theorem dX11_paid_36 : decode cX11_paid 36 = .ok (.iload_n 3, 1) := by decide +kernel
theorem dX11_paid_37 : decode cX11_paid 37 = .ok (.if_icmp .ge 29, 3) := by decide +kernel
theorem dX11_paid_40 : decode cX11_paid 40 = .ok (.aload_n 0, 1) := by decide +kernel
theorem dX11_paid_41 : decode cX11_paid 41 = .ok (.iload 4, 2) := by decide +kernel
theorem dX11_paid_43 : decode cX11_paid 43 = .ok (.invokevirtual 184, 3) := by decide +kernel
theorem dX11_paid_46 : decode cX11_paid 46 = .ok (.aload_n 0, 1) := by decide +kernel
theorem dX11_paid_47 : decode cX11_paid 47 = .ok (.getfield 84, 3) := by decide +kernel
theorem dX11_paid_50 : decode cX11_paid 50 = .ok (.iload 4, 2) := by decide +kernel
theorem dX11_paid_52 : decode cX11_paid 52 = .ok (.aload_n 0, 1) := by decide +kernel
theorem dX11_paid_53 : decode cX11_paid 53 = .ok (.getfield 36, 3) := by decide +kernel
theorem dX11_paid_56 : decode cX11_paid 56 = .ok (.getfield 200, 3) := by decide +kernel
theorem dX11_paid_59 : decode cX11_paid 59 = .ok (.iastore, 1) := by decide +kernel
theorem dX11_paid_60 : decode cX11_paid 60 = .ok (.iinc 4 1, 3) := by decide +kernel
theorem dX11_paid_63 : decode cX11_paid 63 = .ok (.goto (-29), 3) := by decide +kernel
theorem dX11_paid_66 : decode cX11_paid 66 = .ok (.iconst 0, 1) := by decide +kernel
theorem dX11_paid_67 : decode cX11_paid 67 = .ok (.istore 4, 2) := by decide +kernel
theorem dX11_paid_69 : decode cX11_paid 69 = .ok (.bipush (-4), 2) := by decide +kernel
theorem dX11_paid_71 : decode cX11_paid 71 = .ok (.istore 5, 2) := by decide +kernel
theorem dX11_paid_73 : decode cX11_paid 73 = .ok (.iconst 0, 1) := by decide +kernel
theorem dX11_paid_74 : decode cX11_paid 74 = .ok (.istore 6, 2) := by decide +kernel
theorem dX11_paid_76 : decode cX11_paid 76 = .ok (.iload 6, 2) := by decide +kernel
theorem dX11_paid_78 : decode cX11_paid 78 = .ok (.iconst 1, 1) := by decide +kernel
theorem dX11_paid_79 : decode cX11_paid 79 = .ok (.iload_n 3, 1) := by decide +kernel
theorem dX11_paid_80 : decode cX11_paid 80 = .ok (.ishl, 1) := by decide +kernel
theorem dX11_paid_81 : decode cX11_paid 81 = .ok (.if_icmp .ge 39, 3) := by decide +kernel
theorem dX11_paid_84 : decode cX11_paid 84 = .ok (.aload_n 0, 1) := by decide +kernel
theorem dX11_paid_85 : decode cX11_paid 85 = .ok (.iload 6, 2) := by decide +kernel
theorem dX11_paid_87 : decode cX11_paid 87 = .ok (.iload_n 3, 1) := by decide +kernel
theorem dX11_paid_88 : decode cX11_paid 88 = .ok (.invokevirtual 283, 3) := by decide +kernel
theorem dX11_paid_91 : decode cX11_paid 91 = .ok (.iload_n 1, 1) := by decide +kernel
theorem dX11_paid_92 : decode cX11_paid 92 = .ok (.if_icmp .ne 22, 3) := by decide +kernel
theorem dX11_paid_95 : decode cX11_paid 95 = .ok (.iinc 4 1, 3) := by decide +kernel
theorem dX11_paid_98 : decode cX11_paid 98 = .ok (.iload 5, 2) := by decide +kernel
theorem dX11_paid_100 : decode cX11_paid 100 = .ok (.bipush (-4), 2) := by decide +kernel
theorem dX11_paid_102 : decode cX11_paid 102 = .ok (.if_icmp .ne 8, 3) := by decide +kernel
theorem dX11_paid_105 : decode cX11_paid 105 = .ok (.iload 6, 2) := by decide +kernel
theorem dX11_paid_107 : decode cX11_paid 107 = .ok (.goto 5, 3) := by decide +kernel
theorem dX11_paid_110 : decode cX11_paid 110 = .ok (.iload 5, 2) := by decide +kernel
theorem dX11_paid_112 : decode cX11_paid 112 = .ok (.istore 5, 2) := by decide +kernel
theorem dX11_paid_114 : decode cX11_paid 114 = .ok (.iinc 6 1, 3) := by decide +kernel
theorem dX11_paid_117 : decode cX11_paid 117 = .ok (.goto (-41), 3) := by decide +kernel
theorem dX11_paid_120 : decode cX11_paid 120 = .ok (.iload_n 2, 1) := by decide +kernel
theorem dX11_paid_121 : decode cX11_paid 121 = .ok (.ifCond .ne 8, 3) := by decide +kernel
theorem dX11_paid_124 : decode cX11_paid 124 = .ok (.iload 4, 2) := by decide +kernel
theorem dX11_paid_126 : decode cX11_paid 126 = .ok (.goto 5, 3) := by decide +kernel
theorem dX11_paid_129 : decode cX11_paid 129 = .ok (.iload 5, 2) := by decide +kernel
theorem dX11_paid_131 : decode cX11_paid 131 = .ok (.ireturn, 1) := by decide +kernel
theorem dX11_mean_0 : decode cX11_mean 0 = .ok (.iload_n 1, 1) := by decide +kernel
theorem dX11_mean_1 : decode cX11_mean 1 = .ok (.bipush 6, 2) := by decide +kernel
theorem dX11_mean_3 : decode cX11_mean 3 = .ok (.invokestatic 180, 3) := by decide +kernel
theorem dX11_mean_6 : decode cX11_mean 6 = .ok (.ifCond .eq 20, 3) := by decide +kernel
theorem dX11_mean_9 : decode cX11_mean 9 = .ok (.iload_n 2, 1) := by decide +kernel
theorem dX11_mean_10 : decode cX11_mean 10 = .ok (.bipush 11, 2) := by decide +kernel
theorem dX11_mean_12 : decode cX11_mean 12 = .ok (.invokestatic 180, 3) := by decide +kernel
theorem dX11_mean_15 : decode cX11_mean 15 = .ok (.ifCond .eq 11, 3) := by decide +kernel
theorem dX11_mean_18 : decode cX11_mean 18 = .ok (.iload_n 3, 1) := by decide +kernel
theorem dX11_mean_19 : decode cX11_mean 19 = .ok (.iconst 2, 1) := by decide +kernel
theorem dX11_mean_20 : decode cX11_mean 20 = .ok (.invokestatic 180, 3) := by decide +kernel
theorem dX11_mean_23 : decode cX11_mean 23 = .ok (.ifCond .ne 5, 3) := by decide +kernel
theorem dX11_mean_26 : decode cX11_mean 26 = .ok (.iconst (-1), 1) := by decide +kernel
theorem dX11_mean_27 : decode cX11_mean 27 = .ok (.ireturn, 1) := by decide +kernel
theorem dX11_mean_28 : decode cX11_mean 28 = .ok (.iload_n 1, 1) := by decide +kernel
theorem dX11_mean_29 : decode cX11_mean 29 = .ok (.aload_n 0, 1) := by decide +kernel
theorem dX11_mean_30 : decode cX11_mean 30 = .ok (.getfield 26, 3) := by decide +kernel
theorem dX11_mean_33 : decode cX11_mean 33 = .ok (.getfield 156, 3) := by decide +kernel
theorem dX11_mean_36 : decode cX11_mean 36 = .ok (.getfield 214, 3) := by decide +kernel
theorem dX11_mean_39 : decode cX11_mean 39 = .ok (.invokestatic 287, 3) := by decide +kernel
theorem dX11_mean_42 : decode cX11_mean 42 = .ok (.istore 4, 2) := by decide +kernel
theorem dX11_mean_44 : decode cX11_mean 44 = .ok (.iconst 0, 1) := by decide +kernel
theorem dX11_mean_45 : decode cX11_mean 45 = .ok (.istore 5, 2) := by decide +kernel
theorem dX11_mean_47 : decode cX11_mean 47 = .ok (.iconst 1, 1) := by decide +kernel
theorem dX11_mean_48 : decode cX11_mean 48 = .ok (.istore 6, 2) := by decide +kernel
theorem dX11_mean_50 : decode cX11_mean 50 = .ok (.iconst 0, 1) := by decide +kernel
theorem dX11_mean_51 : decode cX11_mean 51 = .ok (.istore 7, 2) := by decide +kernel
theorem dX11_mean_53 : decode cX11_mean 53 = .ok (.iload 7, 2) := by decide +kernel
theorem dX11_mean_55 : decode cX11_mean 55 = .ok (.iload 4, 2) := by decide +kernel
theorem dX11_mean_57 : decode cX11_mean 57 = .ok (.if_icmp .ge 16, 3) := by decide +kernel
theorem dX11_mean_60 : decode cX11_mean 60 = .ok (.iload 6, 2) := by decide +kernel
theorem dX11_mean_62 : decode cX11_mean 62 = .ok (.bipush 10, 2) := by decide +kernel
theorem dX11_mean_64 : decode cX11_mean 64 = .ok (.imul, 1) := by decide +kernel
theorem dX11_mean_65 : decode cX11_mean 65 = .ok (.istore 6, 2) := by decide +kernel
theorem dX11_mean_67 : decode cX11_mean 67 = .ok (.iinc 7 1, 3) := by decide +kernel
theorem dX11_mean_70 : decode cX11_mean 70 = .ok (.goto (-17), 3) := by decide +kernel
theorem dX11_mean_73 : decode cX11_mean 73 = .ok (.iconst 0, 1) := by decide +kernel
theorem dX11_mean_74 : decode cX11_mean 74 = .ok (.istore 7, 2) := by decide +kernel
theorem dX11_mean_76 : decode cX11_mean 76 = .ok (.iload 7, 2) := by decide +kernel
theorem dX11_mean_78 : decode cX11_mean 78 = .ok (.iconst 1, 1) := by decide +kernel
theorem dX11_mean_79 : decode cX11_mean 79 = .ok (.iload 4, 2) := by decide +kernel
theorem dX11_mean_81 : decode cX11_mean 81 = .ok (.ishl, 1) := by decide +kernel
theorem dX11_mean_82 : decode cX11_mean 82 = .ok (.if_icmp .ge 48, 3) := by decide +kernel
theorem dX11_mean_85 : decode cX11_mean 85 = .ok (.iload 7, 2) := by decide +kernel
theorem dX11_mean_87 : decode cX11_mean 87 = .ok (.iload 4, 2) := by decide +kernel
theorem dX11_mean_89 : decode cX11_mean 89 = .ok (.iload_n 2, 1) := by decide +kernel
theorem dX11_mean_90 : decode cX11_mean 90 = .ok (.invokestatic 292, 3) := by decide +kernel
theorem dX11_mean_93 : decode cX11_mean 93 = .ok (.istore 8, 2) := by decide +kernel
theorem dX11_mean_95 : decode cX11_mean 95 = .ok (.iload 8, 2) := by decide +kernel
theorem dX11_mean_97 : decode cX11_mean 97 = .ok (.ifCond .le 27, 3) := by decide +kernel
theorem dX11_mean_100 : decode cX11_mean 100 = .ok (.aload_n 0, 1) := by decide +kernel
theorem dX11_mean_101 : decode cX11_mean 101 = .ok (.iload 7, 2) := by decide +kernel
theorem dX11_mean_103 : decode cX11_mean 103 = .ok (.iload 4, 2) := by decide +kernel
theorem dX11_mean_105 : decode cX11_mean 105 = .ok (.invokevirtual 296, 3) := by decide +kernel
theorem dX11_mean_108 : decode cX11_mean 108 = .ok (.iload 5, 2) := by decide +kernel
theorem dX11_mean_110 : decode cX11_mean 110 = .ok (.iload 8, 2) := by decide +kernel
theorem dX11_mean_112 : decode cX11_mean 112 = .ok (.aload_n 0, 1) := by decide +kernel
theorem dX11_mean_113 : decode cX11_mean 113 = .ok (.aload_n 0, 1) := by decide +kernel
theorem dX11_mean_114 : decode cX11_mean 114 = .ok (.getfield 43, 3) := by decide +kernel
theorem dX11_mean_117 : decode cX11_mean 117 = .ok (.invokevirtual 210, 3) := by decide +kernel
theorem dX11_mean_120 : decode cX11_mean 120 = .ok (.imul, 1) := by decide +kernel
theorem dX11_mean_121 : decode cX11_mean 121 = .ok (.iadd, 1) := by decide +kernel
theorem dX11_mean_122 : decode cX11_mean 122 = .ok (.istore 5, 2) := by decide +kernel
theorem dX11_mean_124 : decode cX11_mean 124 = .ok (.iinc 7 1, 3) := by decide +kernel
theorem dX11_mean_127 : decode cX11_mean 127 = .ok (.goto (-51), 3) := by decide +kernel
theorem dX11_mean_130 : decode cX11_mean 130 = .ok (.iload_n 3, 1) := by decide +kernel
theorem dX11_mean_131 : decode cX11_mean 131 = .ok (.ifCond .ne 8, 3) := by decide +kernel
theorem dX11_mean_134 : decode cX11_mean 134 = .ok (.iload 5, 2) := by decide +kernel
theorem dX11_mean_136 : decode cX11_mean 136 = .ok (.goto 5, 3) := by decide +kernel
theorem dX11_mean_139 : decode cX11_mean 139 = .ok (.iload 6, 2) := by decide +kernel
theorem dX11_mean_141 : decode cX11_mean 141 = .ok (.iload 5, 2) := by decide +kernel
theorem dX11_mean_143 : decode cX11_mean 143 = .ok (.iload 6, 2) := by decide +kernel
theorem dX11_mean_145 : decode cX11_mean 145 = .ok (.invokestatic 299, 3) := by decide +kernel
theorem dX11_mean_148 : decode cX11_mean 148 = .ok (.idiv, 1) := by decide +kernel
theorem dX11_mean_149 : decode cX11_mean 149 = .ok (.ireturn, 1) := by decide +kernel
theorem dX11_day_0 : decode cX11_day 0 = .ok (.iload_n 1, 1) := by decide +kernel
theorem dX11_day_1 : decode cX11_day 1 = .ok (.sipush 10000, 3) := by decide +kernel
theorem dX11_day_4 : decode cX11_day 4 = .ok (.invokestatic 180, 3) := by decide +kernel
theorem dX11_day_7 : decode cX11_day 7 = .ok (.ifCond .eq 11, 3) := by decide +kernel
theorem dX11_day_10 : decode cX11_day 10 = .ok (.iload_n 2, 1) := by decide +kernel
theorem dX11_day_11 : decode cX11_day 11 = .ok (.iconst 2, 1) := by decide +kernel
theorem dX11_day_12 : decode cX11_day 12 = .ok (.invokestatic 180, 3) := by decide +kernel
theorem dX11_day_15 : decode cX11_day 15 = .ok (.ifCond .ne 5, 3) := by decide +kernel
theorem dX11_day_18 : decode cX11_day 18 = .ok (.iconst (-1), 1) := by decide +kernel
theorem dX11_day_19 : decode cX11_day 19 = .ok (.ireturn, 1) := by decide +kernel
theorem dX11_day_20 : decode cX11_day 20 = .ok (.iconst 1, 1) := by decide +kernel
theorem dX11_day_21 : decode cX11_day 21 = .ok (.aload_n 0, 1) := by decide +kernel
theorem dX11_day_22 : decode cX11_day 22 = .ok (.getfield 26, 3) := by decide +kernel
theorem dX11_day_25 : decode cX11_day 25 = .ok (.getfield 125, 3) := by decide +kernel
theorem dX11_day_28 : decode cX11_day 28 = .ok (.getfield 143, 3) := by decide +kernel
theorem dX11_day_31 : decode cX11_day 31 = .ok (.invokestatic 302, 3) := by decide +kernel
theorem dX11_day_34 : decode cX11_day 34 = .ok (.istore_n 3, 1) := by decide +kernel
theorem dX11_day_35 : decode cX11_day 35 = .ok (.iconst 0, 1) := by decide +kernel
theorem dX11_day_36 : decode cX11_day 36 = .ok (.istore 4, 2) := by decide +kernel
theorem dX11_day_38 : decode cX11_day 38 = .ok (.iconst 0, 1) := by decide +kernel
theorem dX11_day_39 : decode cX11_day 39 = .ok (.istore 5, 2) := by decide +kernel
theorem dX11_day_41 : decode cX11_day 41 = .ok (.iconst 0, 1) := by decide +kernel
theorem dX11_day_42 : decode cX11_day 42 = .ok (.istore 6, 2) := by decide +kernel
theorem dX11_day_44 : decode cX11_day 44 = .ok (.iload 6, 2) := by decide +kernel
theorem dX11_day_46 : decode cX11_day 46 = .ok (.aload_n 0, 1) := by decide +kernel
theorem dX11_day_47 : decode cX11_day 47 = .ok (.getfield 26, 3) := by decide +kernel
theorem dX11_day_50 : decode cX11_day 50 = .ok (.getfield 116, 3) := by decide +kernel
theorem dX11_day_53 : decode cX11_day 53 = .ok (.getfield 120, 3) := by decide +kernel
theorem dX11_day_56 : decode cX11_day 56 = .ok (.if_icmp .ge 97, 3) := by decide +kernel
theorem dX11_day_59 : decode cX11_day 59 = .ok (.iload_n 1, 1) := by decide +kernel
theorem dX11_day_60 : decode cX11_day 60 = .ok (.iload 6, 2) := by decide +kernel
theorem dX11_day_62 : decode cX11_day 62 = .ok (.invokestatic 305, 3) := by decide +kernel
theorem dX11_day_65 : decode cX11_day 65 = .ok (.istore 7, 2) := by decide +kernel
theorem dX11_day_67 : decode cX11_day 67 = .ok (.iload 7, 2) := by decide +kernel
theorem dX11_day_69 : decode cX11_day 69 = .ok (.bipush 8, 2) := by decide +kernel
theorem dX11_day_71 : decode cX11_day 71 = .ok (.idiv, 1) := by decide +kernel
theorem dX11_day_72 : decode cX11_day 72 = .ok (.iload_n 3, 1) := by decide +kernel
theorem dX11_day_73 : decode cX11_day 73 = .ok (.irem, 1) := by decide +kernel
theorem dX11_day_74 : decode cX11_day 74 = .ok (.istore 8, 2) := by decide +kernel
theorem dX11_day_76 : decode cX11_day 76 = .ok (.aload_n 0, 1) := by decide +kernel
theorem dX11_day_77 : decode cX11_day 77 = .ok (.getfield 36, 3) := by decide +kernel
theorem dX11_day_80 : decode cX11_day 80 = .ok (.aload_n 0, 1) := by decide +kernel
theorem dX11_day_81 : decode cX11_day 81 = .ok (.getfield 26, 3) := by decide +kernel
theorem dX11_day_84 : decode cX11_day 84 = .ok (.aload_n 0, 1) := by decide +kernel
theorem dX11_day_85 : decode cX11_day 85 = .ok (.getfield 26, 3) := by decide +kernel
theorem dX11_day_88 : decode cX11_day 88 = .ok (.getfield 156, 3) := by decide +kernel
theorem dX11_day_91 : decode cX11_day 91 = .ok (.aload_n 0, 1) := by decide +kernel
theorem dX11_day_92 : decode cX11_day 92 = .ok (.getfield 26, 3) := by decide +kernel
theorem dX11_day_95 : decode cX11_day 95 = .ok (.getfield 116, 3) := by decide +kernel
theorem dX11_day_98 : decode cX11_day 98 = .ok (.getfield 170, 3) := by decide +kernel
theorem dX11_day_101 : decode cX11_day 101 = .ok (.iload 6, 2) := by decide +kernel
theorem dX11_day_103 : decode cX11_day 103 = .ok (.iaload, 1) := by decide +kernel
theorem dX11_day_104 : decode cX11_day 104 = .ok (.iload 7, 2) := by decide +kernel
theorem dX11_day_106 : decode cX11_day 106 = .ok (.iload_n 3, 1) := by decide +kernel
theorem dX11_day_107 : decode cX11_day 107 = .ok (.irem, 1) := by decide +kernel
theorem dX11_day_108 : decode cX11_day 108 = .ok (.iload 8, 2) := by decide +kernel
theorem dX11_day_110 : decode cX11_day 110 = .ok (.iload 8, 2) := by decide +kernel
theorem dX11_day_112 : decode cX11_day 112 = .ok (.invokevirtual 254, 3) := by decide +kernel
theorem dX11_day_115 : decode cX11_day 115 = .ok (.iload 4, 2) := by decide +kernel
theorem dX11_day_117 : decode cX11_day 117 = .ok (.aload_n 0, 1) := by decide +kernel
theorem dX11_day_118 : decode cX11_day 118 = .ok (.getfield 36, 3) := by decide +kernel
theorem dX11_day_121 : decode cX11_day 121 = .ok (.getfield 200, 3) := by decide +kernel
theorem dX11_day_124 : decode cX11_day 124 = .ok (.iadd, 1) := by decide +kernel
theorem dX11_day_125 : decode cX11_day 125 = .ok (.istore 4, 2) := by decide +kernel
theorem dX11_day_127 : decode cX11_day 127 = .ok (.iload 5, 2) := by decide +kernel
theorem dX11_day_129 : decode cX11_day 129 = .ok (.aload_n 0, 1) := by decide +kernel
theorem dX11_day_130 : decode cX11_day 130 = .ok (.getfield 36, 3) := by decide +kernel
theorem dX11_day_133 : decode cX11_day 133 = .ok (.getfield 203, 3) := by decide +kernel
theorem dX11_day_136 : decode cX11_day 136 = .ok (.ifCond .eq 7, 3) := by decide +kernel
theorem dX11_day_139 : decode cX11_day 139 = .ok (.iconst 1, 1) := by decide +kernel
theorem dX11_day_140 : decode cX11_day 140 = .ok (.goto 4, 3) := by decide +kernel
theorem dX11_day_143 : decode cX11_day 143 = .ok (.iconst 0, 1) := by decide +kernel
theorem dX11_day_144 : decode cX11_day 144 = .ok (.iadd, 1) := by decide +kernel
theorem dX11_day_145 : decode cX11_day 145 = .ok (.istore 5, 2) := by decide +kernel
theorem dX11_day_147 : decode cX11_day 147 = .ok (.iinc 6 1, 3) := by decide +kernel
theorem dX11_day_150 : decode cX11_day 150 = .ok (.goto (-106), 3) := by decide +kernel
theorem dX11_day_153 : decode cX11_day 153 = .ok (.iload_n 2, 1) := by decide +kernel
theorem dX11_day_154 : decode cX11_day 154 = .ok (.ifCond .ne 8, 3) := by decide +kernel
theorem dX11_day_157 : decode cX11_day 157 = .ok (.iload 4, 2) := by decide +kernel
theorem dX11_day_159 : decode cX11_day 159 = .ok (.goto 5, 3) := by decide +kernel
theorem dX11_day_162 : decode cX11_day 162 = .ok (.iload 5, 2) := by decide +kernel
theorem dX11_day_164 : decode cX11_day 164 = .ok (.ireturn, 1) := by decide +kernel
theorem dX11_keep_0 : decode cX11_keep 0 = .ok (.aload_n 0, 1) := by decide +kernel
theorem dX11_keep_1 : decode cX11_keep 1 = .ok (.getfield 57, 3) := by decide +kernel
theorem dX11_keep_4 : decode cX11_keep 4 = .ok (.getfield 141, 3) := by decide +kernel
theorem dX11_keep_7 : decode cX11_keep 7 = .ok (.iconst 2, 1) := by decide +kernel
theorem dX11_keep_8 : decode cX11_keep 8 = .ok (.if_icmp .lt 6, 3) := by decide +kernel
theorem dX11_keep_11 : decode cX11_keep 11 = .ok (.bipush (-3), 2) := by decide +kernel
theorem dX11_keep_13 : decode cX11_keep 13 = .ok (.ireturn, 1) := by decide +kernel
theorem dX11_keep_14 : decode cX11_keep 14 = .ok (.aload_n 0, 1) := by decide +kernel
theorem dX11_keep_15 : decode cX11_keep 15 = .ok (.getfield 57, 3) := by decide +kernel
theorem dX11_keep_18 : decode cX11_keep 18 = .ok (.aload_n 0, 1) := by decide +kernel
theorem dX11_keep_19 : decode cX11_keep 19 = .ok (.getfield 26, 3) := by decide +kernel
theorem dX11_keep_22 : decode cX11_keep 22 = .ok (.invokevirtual 308, 3) := by decide +kernel
theorem dX11_keep_25 : decode cX11_keep 25 = .ok (.aload_n 0, 1) := by decide +kernel
theorem dX11_keep_26 : decode cX11_keep 26 = .ok (.getfield 57, 3) := by decide +kernel
theorem dX11_keep_29 : decode cX11_keep 29 = .ok (.getfield 141, 3) := by decide +kernel
theorem dX11_keep_32 : decode cX11_keep 32 = .ok (.ireturn, 1) := by decide +kernel
theorem dX11_back_0 : decode cX11_back 0 = .ok (.aload_n 0, 1) := by decide +kernel
theorem dX11_back_1 : decode cX11_back 1 = .ok (.getfield 57, 3) := by decide +kernel
theorem dX11_back_4 : decode cX11_back 4 = .ok (.getfield 141, 3) := by decide +kernel
theorem dX11_back_7 : decode cX11_back 7 = .ok (.ifCond .ne 6, 3) := by decide +kernel
theorem dX11_back_10 : decode cX11_back 10 = .ok (.bipush (-2), 2) := by decide +kernel
theorem dX11_back_12 : decode cX11_back 12 = .ok (.ireturn, 1) := by decide +kernel
theorem dX11_back_13 : decode cX11_back 13 = .ok (.aload_n 0, 1) := by decide +kernel
theorem dX11_back_14 : decode cX11_back 14 = .ok (.getfield 57, 3) := by decide +kernel
theorem dX11_back_17 : decode cX11_back 17 = .ok (.aload_n 0, 1) := by decide +kernel
theorem dX11_back_18 : decode cX11_back 18 = .ok (.getfield 26, 3) := by decide +kernel
theorem dX11_back_21 : decode cX11_back 21 = .ok (.invokevirtual 311, 3) := by decide +kernel
theorem dX11_back_24 : decode cX11_back 24 = .ok (.aload_n 0, 1) := by decide +kernel
theorem dX11_back_25 : decode cX11_back 25 = .ok (.getfield 50, 3) := by decide +kernel
theorem dX11_back_28 : decode cX11_back 28 = .ok (.invokevirtual 138, 3) := by decide +kernel
theorem dX11_back_31 : decode cX11_back 31 = .ok (.aload_n 0, 1) := by decide +kernel
theorem dX11_back_32 : decode cX11_back 32 = .ok (.getfield 57, 3) := by decide +kernel
theorem dX11_back_35 : decode cX11_back 35 = .ok (.getfield 141, 3) := by decide +kernel
theorem dX11_back_38 : decode cX11_back 38 = .ok (.ireturn, 1) := by decide +kernel
theorem dX11_count_0 : decode cX11_count 0 = .ok (.iload_n 1, 1) := by decide +kernel
theorem dX11_count_1 : decode cX11_count 1 = .ok (.tableswitch 123 0 7 #[47, 58, 69, 80, 91, 99, 107, 115], 47) := by decide +kernel
theorem dX11_count_48 : decode cX11_count 48 = .ok (.aload_n 0, 1) := by decide +kernel
theorem dX11_count_49 : decode cX11_count 49 = .ok (.getfield 26, 3) := by decide +kernel
theorem dX11_count_52 : decode cX11_count 52 = .ok (.getfield 125, 3) := by decide +kernel
theorem dX11_count_55 : decode cX11_count 55 = .ok (.getfield 143, 3) := by decide +kernel
theorem dX11_count_58 : decode cX11_count 58 = .ok (.ireturn, 1) := by decide +kernel
theorem dX11_count_59 : decode cX11_count 59 = .ok (.aload_n 0, 1) := by decide +kernel
theorem dX11_count_60 : decode cX11_count 60 = .ok (.getfield 26, 3) := by decide +kernel
theorem dX11_count_63 : decode cX11_count 63 = .ok (.getfield 125, 3) := by decide +kernel
theorem dX11_count_66 : decode cX11_count 66 = .ok (.getfield 275, 3) := by decide +kernel
theorem dX11_count_69 : decode cX11_count 69 = .ok (.ireturn, 1) := by decide +kernel
theorem dX11_count_70 : decode cX11_count 70 = .ok (.aload_n 0, 1) := by decide +kernel
theorem dX11_count_71 : decode cX11_count 71 = .ok (.getfield 26, 3) := by decide +kernel
theorem dX11_count_74 : decode cX11_count 74 = .ok (.getfield 156, 3) := by decide +kernel
theorem dX11_count_77 : decode cX11_count 77 = .ok (.getfield 214, 3) := by decide +kernel
theorem dX11_count_80 : decode cX11_count 80 = .ok (.ireturn, 1) := by decide +kernel
theorem dX11_count_81 : decode cX11_count 81 = .ok (.aload_n 0, 1) := by decide +kernel
theorem dX11_count_82 : decode cX11_count 82 = .ok (.getfield 26, 3) := by decide +kernel
theorem dX11_count_85 : decode cX11_count 85 = .ok (.getfield 116, 3) := by decide +kernel
theorem dX11_count_88 : decode cX11_count 88 = .ok (.getfield 120, 3) := by decide +kernel
theorem dX11_count_91 : decode cX11_count 91 = .ok (.ireturn, 1) := by decide +kernel
theorem dX11_count_92 : decode cX11_count 92 = .ok (.aload_n 0, 1) := by decide +kernel
theorem dX11_count_93 : decode cX11_count 93 = .ok (.getfield 64, 3) := by decide +kernel
theorem dX11_count_96 : decode cX11_count 96 = .ok (.getfield 142, 3) := by decide +kernel
theorem dX11_count_99 : decode cX11_count 99 = .ok (.ireturn, 1) := by decide +kernel
theorem dX11_count_100 : decode cX11_count 100 = .ok (.aload_n 0, 1) := by decide +kernel
theorem dX11_count_101 : decode cX11_count 101 = .ok (.getfield 50, 3) := by decide +kernel
theorem dX11_count_104 : decode cX11_count 104 = .ok (.getfield 226, 3) := by decide +kernel
theorem dX11_count_107 : decode cX11_count 107 = .ok (.ireturn, 1) := by decide +kernel
theorem dX11_count_108 : decode cX11_count 108 = .ok (.aload_n 0, 1) := by decide +kernel
theorem dX11_count_109 : decode cX11_count 109 = .ok (.getfield 57, 3) := by decide +kernel
theorem dX11_count_112 : decode cX11_count 112 = .ok (.getfield 141, 3) := by decide +kernel
theorem dX11_count_115 : decode cX11_count 115 = .ok (.ireturn, 1) := by decide +kernel
theorem dX11_count_116 : decode cX11_count 116 = .ok (.aload_n 0, 1) := by decide +kernel
theorem dX11_count_117 : decode cX11_count 117 = .ok (.getfield 10, 3) := by decide +kernel
theorem dX11_count_120 : decode cX11_count 120 = .ok (.getfield 109, 3) := by decide +kernel
theorem dX11_count_123 : decode cX11_count 123 = .ok (.ireturn, 1) := by decide +kernel
theorem dX11_count_124 : decode cX11_count 124 = .ok (.iconst (-1), 1) := by decide +kernel
theorem dX11_count_125 : decode cX11_count 125 = .ok (.ireturn, 1) := by decide +kernel
theorem dX11_isWithin_0 : decode cX11_isWithin 0 = .ok (.iload_n 0, 1) := by decide +kernel
theorem dX11_isWithin_1 : decode cX11_isWithin 1 = .ok (.ifCond .lt 12, 3) := by decide +kernel
theorem dX11_isWithin_4 : decode cX11_isWithin 4 = .ok (.iload_n 0, 1) := by decide +kernel
theorem dX11_isWithin_5 : decode cX11_isWithin 5 = .ok (.iload_n 1, 1) := by decide +kernel
theorem dX11_isWithin_6 : decode cX11_isWithin 6 = .ok (.if_icmp .ge 7, 3) := by decide +kernel
theorem dX11_isWithin_9 : decode cX11_isWithin 9 = .ok (.iconst 1, 1) := by decide +kernel
theorem dX11_isWithin_10 : decode cX11_isWithin 10 = .ok (.goto 4, 3) := by decide +kernel
theorem dX11_isWithin_13 : decode cX11_isWithin 13 = .ok (.iconst 0, 1) := by decide +kernel
theorem dX11_isWithin_14 : decode cX11_isWithin 14 = .ok (.ireturn, 1) := by decide +kernel
theorem dX11_isCorner_0 : decode cX11_isCorner 0 = .ok (.iload_n 1, 1) := by decide +kernel
theorem dX11_isCorner_1 : decode cX11_isCorner 1 = .ok (.aload_n 0, 1) := by decide +kernel
theorem dX11_isCorner_2 : decode cX11_isCorner 2 = .ok (.getfield 26, 3) := by decide +kernel
theorem dX11_isCorner_5 : decode cX11_isCorner 5 = .ok (.getfield 125, 3) := by decide +kernel
theorem dX11_isCorner_8 : decode cX11_isCorner 8 = .ok (.getfield 143, 3) := by decide +kernel
theorem dX11_isCorner_11 : decode cX11_isCorner 11 = .ok (.invokestatic 180, 3) := by decide +kernel
theorem dX11_isCorner_14 : decode cX11_isCorner 14 = .ok (.ireturn, 1) := by decide +kernel
theorem dX11_isSign_0 : decode cX11_isSign 0 = .ok (.iload_n 1, 1) := by decide +kernel
theorem dX11_isSign_1 : decode cX11_isSign 1 = .ok (.aload_n 0, 1) := by decide +kernel
theorem dX11_isSign_2 : decode cX11_isSign 2 = .ok (.getfield 26, 3) := by decide +kernel
theorem dX11_isSign_5 : decode cX11_isSign 5 = .ok (.getfield 156, 3) := by decide +kernel
theorem dX11_isSign_8 : decode cX11_isSign 8 = .ok (.getfield 214, 3) := by decide +kernel
theorem dX11_isSign_11 : decode cX11_isSign 11 = .ok (.invokestatic 180, 3) := by decide +kernel
theorem dX11_isSign_14 : decode cX11_isSign 14 = .ok (.ireturn, 1) := by decide +kernel
theorem dX11_isWalker_0 : decode cX11_isWalker 0 = .ok (.iload_n 1, 1) := by decide +kernel
theorem dX11_isWalker_1 : decode cX11_isWalker 1 = .ok (.aload_n 0, 1) := by decide +kernel
theorem dX11_isWalker_2 : decode cX11_isWalker 2 = .ok (.getfield 26, 3) := by decide +kernel
theorem dX11_isWalker_5 : decode cX11_isWalker 5 = .ok (.getfield 116, 3) := by decide +kernel
theorem dX11_isWalker_8 : decode cX11_isWalker 8 = .ok (.getfield 120, 3) := by decide +kernel
theorem dX11_isWalker_11 : decode cX11_isWalker 11 = .ok (.invokestatic 180, 3) := by decide +kernel
theorem dX11_isWalker_14 : decode cX11_isWalker 14 = .ok (.ireturn, 1) := by decide +kernel
theorem dX11_send_0 : decode cX11_send 0 = .ok (.aload_n 0, 1) := by decide +kernel
theorem dX11_send_1 : decode cX11_send 1 = .ok (.getfield 26, 3) := by decide +kernel
theorem dX11_send_4 : decode cX11_send 4 = .ok (.getfield 116, 3) := by decide +kernel
theorem dX11_send_7 : decode cX11_send 7 = .ok (.astore_n 2, 1) := by decide +kernel
theorem dX11_send_8 : decode cX11_send 8 = .ok (.aload_n 0, 1) := by decide +kernel
theorem dX11_send_9 : decode cX11_send 9 = .ok (.getfield 36, 3) := by decide +kernel
theorem dX11_send_12 : decode cX11_send 12 = .ok (.aload_n 0, 1) := by decide +kernel
theorem dX11_send_13 : decode cX11_send 13 = .ok (.getfield 26, 3) := by decide +kernel
theorem dX11_send_16 : decode cX11_send 16 = .ok (.aload_n 0, 1) := by decide +kernel
theorem dX11_send_17 : decode cX11_send 17 = .ok (.getfield 26, 3) := by decide +kernel
theorem dX11_send_20 : decode cX11_send 20 = .ok (.getfield 156, 3) := by decide +kernel
theorem dX11_send_23 : decode cX11_send 23 = .ok (.aload_n 2, 1) := by decide +kernel
theorem dX11_send_24 : decode cX11_send 24 = .ok (.getfield 170, 3) := by decide +kernel
theorem dX11_send_27 : decode cX11_send 27 = .ok (.iload_n 1, 1) := by decide +kernel
theorem dX11_send_28 : decode cX11_send 28 = .ok (.iaload, 1) := by decide +kernel
theorem dX11_send_29 : decode cX11_send 29 = .ok (.aload_n 2, 1) := by decide +kernel
theorem dX11_send_30 : decode cX11_send 30 = .ok (.getfield 173, 3) := by decide +kernel
theorem dX11_send_33 : decode cX11_send 33 = .ok (.iload_n 1, 1) := by decide +kernel
theorem dX11_send_34 : decode cX11_send 34 = .ok (.iaload, 1) := by decide +kernel
theorem dX11_send_35 : decode cX11_send 35 = .ok (.aload_n 2, 1) := by decide +kernel
theorem dX11_send_36 : decode cX11_send 36 = .ok (.getfield 176, 3) := by decide +kernel
theorem dX11_send_39 : decode cX11_send 39 = .ok (.iload_n 1, 1) := by decide +kernel
theorem dX11_send_40 : decode cX11_send 40 = .ok (.iaload, 1) := by decide +kernel
theorem dX11_send_41 : decode cX11_send 41 = .ok (.aload_n 2, 1) := by decide +kernel
theorem dX11_send_42 : decode cX11_send 42 = .ok (.getfield 177, 3) := by decide +kernel
theorem dX11_send_45 : decode cX11_send 45 = .ok (.iload_n 1, 1) := by decide +kernel
theorem dX11_send_46 : decode cX11_send 46 = .ok (.iaload, 1) := by decide +kernel
theorem dX11_send_47 : decode cX11_send 47 = .ok (.invokevirtual 254, 3) := by decide +kernel
theorem dX11_send_50 : decode cX11_send 50 = .ok (.return_, 1) := by decide +kernel
theorem dX11_taxBy_0 : decode cX11_taxBy 0 = .ok (.aload_n 0, 1) := by decide +kernel
theorem dX11_taxBy_1 : decode cX11_taxBy 1 = .ok (.getfield 26, 3) := by decide +kernel
theorem dX11_taxBy_4 : decode cX11_taxBy 4 = .ok (.getfield 116, 3) := by decide +kernel
theorem dX11_taxBy_7 : decode cX11_taxBy 7 = .ok (.astore_n 2, 1) := by decide +kernel
theorem dX11_taxBy_8 : decode cX11_taxBy 8 = .ok (.iconst 0, 1) := by decide +kernel
theorem dX11_taxBy_9 : decode cX11_taxBy 9 = .ok (.istore_n 3, 1) := by decide +kernel
theorem dX11_taxBy_10 : decode cX11_taxBy 10 = .ok (.iconst 0, 1) := by decide +kernel
theorem dX11_taxBy_11 : decode cX11_taxBy 11 = .ok (.istore 4, 2) := by decide +kernel
theorem dX11_taxBy_13 : decode cX11_taxBy 13 = .ok (.iload 4, 2) := by decide +kernel
theorem dX11_taxBy_15 : decode cX11_taxBy 15 = .ok (.aload_n 2, 1) := by decide +kernel
theorem dX11_taxBy_16 : decode cX11_taxBy 16 = .ok (.getfield 120, 3) := by decide +kernel
theorem dX11_taxBy_19 : decode cX11_taxBy 19 = .ok (.if_icmp .ge 59, 3) := by decide +kernel
theorem dX11_taxBy_22 : decode cX11_taxBy 22 = .ok (.aload_n 0, 1) := by decide +kernel
theorem dX11_taxBy_23 : decode cX11_taxBy 23 = .ok (.getfield 36, 3) := by decide +kernel
theorem dX11_taxBy_26 : decode cX11_taxBy 26 = .ok (.aload_n 0, 1) := by decide +kernel
theorem dX11_taxBy_27 : decode cX11_taxBy 27 = .ok (.getfield 26, 3) := by decide +kernel
theorem dX11_taxBy_30 : decode cX11_taxBy 30 = .ok (.aload_n 1, 1) := by decide +kernel
theorem dX11_taxBy_31 : decode cX11_taxBy 31 = .ok (.aload_n 2, 1) := by decide +kernel
theorem dX11_taxBy_32 : decode cX11_taxBy 32 = .ok (.getfield 170, 3) := by decide +kernel
theorem dX11_taxBy_35 : decode cX11_taxBy 35 = .ok (.iload 4, 2) := by decide +kernel
theorem dX11_taxBy_37 : decode cX11_taxBy 37 = .ok (.iaload, 1) := by decide +kernel
theorem dX11_taxBy_38 : decode cX11_taxBy 38 = .ok (.aload_n 2, 1) := by decide +kernel
theorem dX11_taxBy_39 : decode cX11_taxBy 39 = .ok (.getfield 173, 3) := by decide +kernel
theorem dX11_taxBy_42 : decode cX11_taxBy 42 = .ok (.iload 4, 2) := by decide +kernel
theorem dX11_taxBy_44 : decode cX11_taxBy 44 = .ok (.iaload, 1) := by decide +kernel
theorem dX11_taxBy_45 : decode cX11_taxBy 45 = .ok (.aload_n 2, 1) := by decide +kernel
theorem dX11_taxBy_46 : decode cX11_taxBy 46 = .ok (.getfield 176, 3) := by decide +kernel
theorem dX11_taxBy_49 : decode cX11_taxBy 49 = .ok (.iload 4, 2) := by decide +kernel
theorem dX11_taxBy_51 : decode cX11_taxBy 51 = .ok (.iaload, 1) := by decide +kernel
theorem dX11_taxBy_52 : decode cX11_taxBy 52 = .ok (.aload_n 2, 1) := by decide +kernel
theorem dX11_taxBy_53 : decode cX11_taxBy 53 = .ok (.getfield 177, 3) := by decide +kernel
theorem dX11_taxBy_56 : decode cX11_taxBy 56 = .ok (.iload 4, 2) := by decide +kernel
theorem dX11_taxBy_58 : decode cX11_taxBy 58 = .ok (.iaload, 1) := by decide +kernel
