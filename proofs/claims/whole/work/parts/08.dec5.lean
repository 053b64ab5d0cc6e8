theorem dX12_putUp_34 : decode cX12_putUp 34 = .ok (.aload_n 0, 1) := by decide +kernel
theorem dX12_putUp_35 : decode cX12_putUp 35 = .ok (.getfield 47, 3) := by decide +kernel
theorem dX12_putUp_38 : decode cX12_putUp 38 = .ok (.iload 5, 2) := by decide +kernel
theorem dX12_putUp_40 : decode cX12_putUp 40 = .ok (.iconst 2, 1) := by decide +kernel
theorem dX12_putUp_41 : decode cX12_putUp 41 = .ok (.iadd, 1) := by decide +kernel
theorem dX12_putUp_42 : decode cX12_putUp 42 = .ok (.iload 4, 2) := by decide +kernel
theorem dX12_putUp_44 : decode cX12_putUp 44 = .ok (.iastore, 1) := by decide +kernel
theorem dX12_putUp_45 : decode cX12_putUp 45 = .ok (.aload_n 0, 1) := by decide +kernel
theorem dX12_putUp_46 : decode cX12_putUp 46 = .ok (.getfield 47, 3) := by decide +kernel
theorem dX12_putUp_49 : decode cX12_putUp 49 = .ok (.iload_n 1, 1) := by decide +kernel
theorem dX12_putUp_50 : decode cX12_putUp 50 = .ok (.iconst 0, 1) := by decide +kernel
theorem dX12_putUp_51 : decode cX12_putUp 51 = .ok (.iadd, 1) := by decide +kernel
theorem dX12_putUp_52 : decode cX12_putUp 52 = .ok (.dup2, 1) := by decide +kernel
theorem dX12_putUp_53 : decode cX12_putUp 53 = .ok (.iaload, 1) := by decide +kernel
theorem dX12_putUp_54 : decode cX12_putUp 54 = .ok (.iconst 1, 1) := by decide +kernel
theorem dX12_putUp_55 : decode cX12_putUp 55 = .ok (.iadd, 1) := by decide +kernel
theorem dX12_putUp_56 : decode cX12_putUp 56 = .ok (.iastore, 1) := by decide +kernel
theorem dX12_putUp_57 : decode cX12_putUp 57 = .ok (.return_, 1) := by decide +kernel
theorem dX12_takeDown_0 : decode cX12_takeDown 0 = .ok (.iconst 3, 1) := by decide +kernel
theorem dX12_takeDown_1 : decode cX12_takeDown 1 = .ok (.iload_n 2, 1) := by decide +kernel
theorem dX12_takeDown_2 : decode cX12_takeDown 2 = .ok (.imul, 1) := by decide +kernel
theorem dX12_takeDown_3 : decode cX12_takeDown 3 = .ok (.istore_n 3, 1) := by decide +kernel
theorem dX12_takeDown_4 : decode cX12_takeDown 4 = .ok (.iload_n 3, 1) := by decide +kernel
theorem dX12_takeDown_5 : decode cX12_takeDown 5 = .ok (.iconst 3, 1) := by decide +kernel
theorem dX12_takeDown_6 : decode cX12_takeDown 6 = .ok (.aload_n 0, 1) := by decide +kernel
theorem dX12_takeDown_7 : decode cX12_takeDown 7 = .ok (.getfield 47, 3) := by decide +kernel
theorem dX12_takeDown_10 : decode cX12_takeDown 10 = .ok (.iload_n 1, 1) := by decide +kernel
theorem dX12_takeDown_11 : decode cX12_takeDown 11 = .ok (.iconst 0, 1) := by decide +kernel
theorem dX12_takeDown_12 : decode cX12_takeDown 12 = .ok (.iadd, 1) := by decide +kernel
theorem dX12_takeDown_13 : decode cX12_takeDown 13 = .ok (.iaload, 1) := by decide +kernel
theorem dX12_takeDown_14 : decode cX12_takeDown 14 = .ok (.imul, 1) := by decide +kernel
theorem dX12_takeDown_15 : decode cX12_takeDown 15 = .ok (.iconst 3, 1) := by decide +kernel
theorem dX12_takeDown_16 : decode cX12_takeDown 16 = .ok (.isub, 1) := by decide +kernel
theorem dX12_takeDown_17 : decode cX12_takeDown 17 = .ok (.if_icmp .ge 31, 3) := by decide +kernel
theorem dX12_takeDown_20 : decode cX12_takeDown 20 = .ok (.aload_n 0, 1) := by decide +kernel
theorem dX12_takeDown_21 : decode cX12_takeDown 21 = .ok (.getfield 47, 3) := by decide +kernel
theorem dX12_takeDown_24 : decode cX12_takeDown 24 = .ok (.iload_n 1, 1) := by decide +kernel
theorem dX12_takeDown_25 : decode cX12_takeDown 25 = .ok (.iconst 1, 1) := by decide +kernel
theorem dX12_takeDown_26 : decode cX12_takeDown 26 = .ok (.iadd, 1) := by decide +kernel
theorem dX12_takeDown_27 : decode cX12_takeDown 27 = .ok (.iload_n 3, 1) := by decide +kernel
theorem dX12_takeDown_28 : decode cX12_takeDown 28 = .ok (.iadd, 1) := by decide +kernel
theorem dX12_takeDown_29 : decode cX12_takeDown 29 = .ok (.aload_n 0, 1) := by decide +kernel
theorem dX12_takeDown_30 : decode cX12_takeDown 30 = .ok (.getfield 47, 3) := by decide +kernel
theorem dX12_takeDown_33 : decode cX12_takeDown 33 = .ok (.iload_n 1, 1) := by decide +kernel
theorem dX12_takeDown_34 : decode cX12_takeDown 34 = .ok (.iconst 1, 1) := by decide +kernel
theorem dX12_takeDown_35 : decode cX12_takeDown 35 = .ok (.iadd, 1) := by decide +kernel
theorem dX12_takeDown_36 : decode cX12_takeDown 36 = .ok (.iconst 3, 1) := by decide +kernel
theorem dX12_takeDown_37 : decode cX12_takeDown 37 = .ok (.iadd, 1) := by decide +kernel
theorem dX12_takeDown_38 : decode cX12_takeDown 38 = .ok (.iload_n 3, 1) := by decide +kernel
theorem dX12_takeDown_39 : decode cX12_takeDown 39 = .ok (.iadd, 1) := by decide +kernel
theorem dX12_takeDown_40 : decode cX12_takeDown 40 = .ok (.iaload, 1) := by decide +kernel
theorem dX12_takeDown_41 : decode cX12_takeDown 41 = .ok (.iastore, 1) := by decide +kernel
theorem dX12_takeDown_42 : decode cX12_takeDown 42 = .ok (.iinc 3 1, 3) := by decide +kernel
theorem dX12_takeDown_45 : decode cX12_takeDown 45 = .ok (.goto (-41), 3) := by decide +kernel
theorem dX12_takeDown_48 : decode cX12_takeDown 48 = .ok (.aload_n 0, 1) := by decide +kernel
theorem dX12_takeDown_49 : decode cX12_takeDown 49 = .ok (.getfield 47, 3) := by decide +kernel
theorem dX12_takeDown_52 : decode cX12_takeDown 52 = .ok (.iload_n 1, 1) := by decide +kernel
theorem dX12_takeDown_53 : decode cX12_takeDown 53 = .ok (.iconst 0, 1) := by decide +kernel
theorem dX12_takeDown_54 : decode cX12_takeDown 54 = .ok (.iadd, 1) := by decide +kernel
theorem dX12_takeDown_55 : decode cX12_takeDown 55 = .ok (.dup2, 1) := by decide +kernel
theorem dX12_takeDown_56 : decode cX12_takeDown 56 = .ok (.iaload, 1) := by decide +kernel
theorem dX12_takeDown_57 : decode cX12_takeDown 57 = .ok (.iconst 1, 1) := by decide +kernel
theorem dX12_takeDown_58 : decode cX12_takeDown 58 = .ok (.isub, 1) := by decide +kernel
theorem dX12_takeDown_59 : decode cX12_takeDown 59 = .ok (.iastore, 1) := by decide +kernel
theorem dX12_takeDown_60 : decode cX12_takeDown 60 = .ok (.return_, 1) := by decide +kernel
theorem dX12_put_0 : decode cX12_put 0 = .ok (.aload_n 0, 1) := by decide +kernel
theorem dX12_put_1 : decode cX12_put 1 = .ok (.iload_n 1, 1) := by decide +kernel
theorem dX12_put_2 : decode cX12_put 2 = .ok (.invokevirtual 145, 3) := by decide +kernel
theorem dX12_put_5 : decode cX12_put 5 = .ok (.ifCond .eq 19, 3) := by decide +kernel
theorem dX12_put_8 : decode cX12_put 8 = .ok (.aload_n 0, 1) := by decide +kernel
theorem dX12_put_9 : decode cX12_put 9 = .ok (.iload_n 2, 1) := by decide +kernel
theorem dX12_put_10 : decode cX12_put 10 = .ok (.invokevirtual 145, 3) := by decide +kernel
theorem dX12_put_13 : decode cX12_put 13 = .ok (.ifCond .eq 11, 3) := by decide +kernel
theorem dX12_put_16 : decode cX12_put 16 = .ok (.aload_n 0, 1) := by decide +kernel
theorem dX12_put_17 : decode cX12_put 17 = .ok (.iload_n 3, 1) := by decide +kernel
theorem dX12_put_18 : decode cX12_put 18 = .ok (.invokevirtual 145, 3) := by decide +kernel
theorem dX12_put_21 : decode cX12_put 21 = .ok (.ifCond .ne 5, 3) := by decide +kernel
theorem dX12_put_24 : decode cX12_put 24 = .ok (.iconst (-1), 1) := by decide +kernel
theorem dX12_put_25 : decode cX12_put 25 = .ok (.ireturn, 1) := by decide +kernel
theorem dX12_put_26 : decode cX12_put 26 = .ok (.aload_n 0, 1) := by decide +kernel
theorem dX12_put_27 : decode cX12_put 27 = .ok (.getfield 47, 3) := by decide +kernel
theorem dX12_put_30 : decode cX12_put 30 = .ok (.iconst 0, 1) := by decide +kernel
theorem dX12_put_31 : decode cX12_put 31 = .ok (.iaload, 1) := by decide +kernel
theorem dX12_put_32 : decode cX12_put 32 = .ok (.bipush 8, 2) := by decide +kernel
theorem dX12_put_34 : decode cX12_put 34 = .ok (.if_icmp .ne 6, 3) := by decide +kernel
theorem dX12_put_37 : decode cX12_put 37 = .ok (.bipush (-3), 2) := by decide +kernel
theorem dX12_put_39 : decode cX12_put 39 = .ok (.ireturn, 1) := by decide +kernel
theorem dX12_put_40 : decode cX12_put 40 = .ok (.aload_n 0, 1) := by decide +kernel
theorem dX12_put_41 : decode cX12_put 41 = .ok (.invokevirtual 206, 3) := by decide +kernel
theorem dX12_put_44 : decode cX12_put 44 = .ok (.aload_n 0, 1) := by decide +kernel
theorem dX12_put_45 : decode cX12_put 45 = .ok (.iconst 0, 1) := by decide +kernel
theorem dX12_put_46 : decode cX12_put 46 = .ok (.iload_n 1, 1) := by decide +kernel
theorem dX12_put_47 : decode cX12_put 47 = .ok (.iload_n 2, 1) := by decide +kernel
theorem dX12_put_48 : decode cX12_put 48 = .ok (.iload_n 3, 1) := by decide +kernel
theorem dX12_put_49 : decode cX12_put 49 = .ok (.invokevirtual 209, 3) := by decide +kernel
theorem dX12_put_52 : decode cX12_put 52 = .ok (.aload_n 0, 1) := by decide +kernel
theorem dX12_put_53 : decode cX12_put 53 = .ok (.getfield 47, 3) := by decide +kernel
theorem dX12_put_56 : decode cX12_put 56 = .ok (.iconst 0, 1) := by decide +kernel
theorem dX12_put_57 : decode cX12_put 57 = .ok (.iaload, 1) := by decide +kernel
theorem dX12_put_58 : decode cX12_put 58 = .ok (.ireturn, 1) := by decide +kernel
theorem dX12_take_0 : decode cX12_take 0 = .ok (.aload_n 0, 1) := by decide +kernel
theorem dX12_take_1 : decode cX12_take 1 = .ok (.iload_n 1, 1) := by decide +kernel
theorem dX12_take_2 : decode cX12_take 2 = .ok (.invokevirtual 149, 3) := by decide +kernel
theorem dX12_take_5 : decode cX12_take 5 = .ok (.ifCond .ne 5, 3) := by decide +kernel
theorem dX12_take_8 : decode cX12_take 8 = .ok (.iconst (-1), 1) := by decide +kernel
theorem dX12_take_9 : decode cX12_take 9 = .ok (.ireturn, 1) := by decide +kernel
theorem dX12_take_10 : decode cX12_take 10 = .ok (.aload_n 0, 1) := by decide +kernel
theorem dX12_take_11 : decode cX12_take 11 = .ok (.invokevirtual 206, 3) := by decide +kernel
theorem dX12_take_14 : decode cX12_take 14 = .ok (.aload_n 0, 1) := by decide +kernel
theorem dX12_take_15 : decode cX12_take 15 = .ok (.iconst 0, 1) := by decide +kernel
theorem dX12_take_16 : decode cX12_take 16 = .ok (.iload_n 1, 1) := by decide +kernel
theorem dX12_take_17 : decode cX12_take 17 = .ok (.invokevirtual 213, 3) := by decide +kernel
theorem dX12_take_20 : decode cX12_take 20 = .ok (.aload_n 0, 1) := by decide +kernel
theorem dX12_take_21 : decode cX12_take 21 = .ok (.getfield 47, 3) := by decide +kernel
theorem dX12_take_24 : decode cX12_take 24 = .ok (.iconst 0, 1) := by decide +kernel
theorem dX12_take_25 : decode cX12_take 25 = .ok (.iaload, 1) := by decide +kernel
theorem dX12_take_26 : decode cX12_take 26 = .ok (.ireturn, 1) := by decide +kernel
theorem dX12_tell_0 : decode cX12_tell 0 = .ok (.aload_n 0, 1) := by decide +kernel
theorem dX12_tell_1 : decode cX12_tell 1 = .ok (.iload_n 1, 1) := by decide +kernel
theorem dX12_tell_2 : decode cX12_tell 2 = .ok (.invokevirtual 152, 3) := by decide +kernel
theorem dX12_tell_5 : decode cX12_tell 5 = .ok (.ifCond .eq 11, 3) := by decide +kernel
theorem dX12_tell_8 : decode cX12_tell 8 = .ok (.aload_n 0, 1) := by decide +kernel
theorem dX12_tell_9 : decode cX12_tell 9 = .ok (.iload_n 2, 1) := by decide +kernel
theorem dX12_tell_10 : decode cX12_tell 10 = .ok (.invokevirtual 145, 3) := by decide +kernel
theorem dX12_tell_13 : decode cX12_tell 13 = .ok (.ifCond .ne 5, 3) := by decide +kernel
theorem dX12_tell_16 : decode cX12_tell 16 = .ok (.iconst (-1), 1) := by decide +kernel
theorem dX12_tell_17 : decode cX12_tell 17 = .ok (.ireturn, 1) := by decide +kernel
theorem dX12_tell_18 : decode cX12_tell 18 = .ok (.aload_n 0, 1) := by decide +kernel
theorem dX12_tell_19 : decode cX12_tell 19 = .ok (.invokevirtual 206, 3) := by decide +kernel
theorem dX12_tell_22 : decode cX12_tell 22 = .ok (.aload_n 0, 1) := by decide +kernel
theorem dX12_tell_23 : decode cX12_tell 23 = .ok (.getfield 47, 3) := by decide +kernel
theorem dX12_tell_26 : decode cX12_tell 26 = .ok (.bipush 28, 2) := by decide +kernel
theorem dX12_tell_28 : decode cX12_tell 28 = .ok (.iload_n 1, 1) := by decide +kernel
theorem dX12_tell_29 : decode cX12_tell 29 = .ok (.iadd, 1) := by decide +kernel
theorem dX12_tell_30 : decode cX12_tell 30 = .ok (.iaload, 1) := by decide +kernel
theorem dX12_tell_31 : decode cX12_tell 31 = .ok (.istore_n 3, 1) := by decide +kernel
theorem dX12_tell_32 : decode cX12_tell 32 = .ok (.aload_n 0, 1) := by decide +kernel
theorem dX12_tell_33 : decode cX12_tell 33 = .ok (.getfield 47, 3) := by decide +kernel
theorem dX12_tell_36 : decode cX12_tell 36 = .ok (.bipush 28, 2) := by decide +kernel
theorem dX12_tell_38 : decode cX12_tell 38 = .ok (.iload_n 1, 1) := by decide +kernel
theorem dX12_tell_39 : decode cX12_tell 39 = .ok (.iadd, 1) := by decide +kernel
theorem dX12_tell_40 : decode cX12_tell 40 = .ok (.iload_n 2, 1) := by decide +kernel
theorem dX12_tell_41 : decode cX12_tell 41 = .ok (.iastore, 1) := by decide +kernel
theorem dX12_tell_42 : decode cX12_tell 42 = .ok (.iload_n 3, 1) := by decide +kernel
theorem dX12_tell_43 : decode cX12_tell 43 = .ok (.ireturn, 1) := by decide +kernel
theorem dX12_undo_0 : decode cX12_undo 0 = .ok (.aload_n 0, 1) := by decide +kernel
theorem dX12_undo_1 : decode cX12_undo 1 = .ok (.getfield 129, 3) := by decide +kernel
theorem dX12_undo_4 : decode cX12_undo 4 = .ok (.ifCond .ne 6, 3) := by decide +kernel
theorem dX12_undo_7 : decode cX12_undo 7 = .ok (.bipush (-2), 2) := by decide +kernel
theorem dX12_undo_9 : decode cX12_undo 9 = .ok (.ireturn, 1) := by decide +kernel
theorem dX12_undo_10 : decode cX12_undo 10 = .ok (.aload_n 0, 1) := by decide +kernel
theorem dX12_undo_11 : decode cX12_undo 11 = .ok (.dup, 1) := by decide +kernel
theorem dX12_undo_12 : decode cX12_undo 12 = .ok (.getfield 129, 3) := by decide +kernel
theorem dX12_undo_15 : decode cX12_undo 15 = .ok (.iconst 1, 1) := by decide +kernel
theorem dX12_undo_16 : decode cX12_undo 16 = .ok (.isub, 1) := by decide +kernel
theorem dX12_undo_17 : decode cX12_undo 17 = .ok (.putfield 129, 3) := by decide +kernel
theorem dX12_undo_20 : decode cX12_undo 20 = .ok (.aload_n 0, 1) := by decide +kernel
theorem dX12_undo_21 : decode cX12_undo 21 = .ok (.bipush 32, 2) := by decide +kernel
theorem dX12_undo_23 : decode cX12_undo 23 = .ok (.bipush 32, 2) := by decide +kernel
theorem dX12_undo_25 : decode cX12_undo 25 = .ok (.aload_n 0, 1) := by decide +kernel
theorem dX12_undo_26 : decode cX12_undo 26 = .ok (.getfield 129, 3) := by decide +kernel
theorem dX12_undo_29 : decode cX12_undo 29 = .ok (.imul, 1) := by decide +kernel
theorem dX12_undo_30 : decode cX12_undo 30 = .ok (.iadd, 1) := by decide +kernel
theorem dX12_undo_31 : decode cX12_undo 31 = .ok (.iconst 0, 1) := by decide +kernel
theorem dX12_undo_32 : decode cX12_undo 32 = .ok (.invokevirtual 203, 3) := by decide +kernel
theorem dX12_undo_35 : decode cX12_undo 35 = .ok (.aload_n 0, 1) := by decide +kernel
theorem dX12_undo_36 : decode cX12_undo 36 = .ok (.getfield 129, 3) := by decide +kernel
theorem dX12_undo_39 : decode cX12_undo 39 = .ok (.ireturn, 1) := by decide +kernel
theorem dX12_lies_0 : decode cX12_lies 0 = .ok (.iconst 0, 1) := by decide +kernel
theorem dX12_lies_1 : decode cX12_lies 1 = .ok (.istore_n 1, 1) := by decide +kernel
theorem dX12_lies_2 : decode cX12_lies 2 = .ok (.iconst 0, 1) := by decide +kernel
theorem dX12_lies_3 : decode cX12_lies 3 = .ok (.istore_n 2, 1) := by decide +kernel
theorem dX12_lies_4 : decode cX12_lies 4 = .ok (.iload_n 2, 1) := by decide +kernel
theorem dX12_lies_5 : decode cX12_lies 5 = .ok (.aload_n 0, 1) := by decide +kernel
theorem dX12_lies_6 : decode cX12_lies 6 = .ok (.getfield 47, 3) := by decide +kernel
theorem dX12_lies_9 : decode cX12_lies 9 = .ok (.iconst 0, 1) := by decide +kernel
theorem dX12_lies_10 : decode cX12_lies 10 = .ok (.iaload, 1) := by decide +kernel
theorem dX12_lies_11 : decode cX12_lies 11 = .ok (.if_icmp .ge 71, 3) := by decide +kernel
theorem dX12_lies_14 : decode cX12_lies 14 = .ok (.iconst 1, 1) := by decide +kernel
theorem dX12_lies_15 : decode cX12_lies 15 = .ok (.iconst 3, 1) := by decide +kernel
theorem dX12_lies_16 : decode cX12_lies 16 = .ok (.iload_n 2, 1) := by decide +kernel
theorem dX12_lies_17 : decode cX12_lies 17 = .ok (.imul, 1) := by decide +kernel
theorem dX12_lies_18 : decode cX12_lies 18 = .ok (.iadd, 1) := by decide +kernel
theorem dX12_lies_19 : decode cX12_lies 19 = .ok (.istore_n 3, 1) := by decide +kernel
theorem dX12_lies_20 : decode cX12_lies 20 = .ok (.iload_n 1, 1) := by decide +kernel
theorem dX12_lies_21 : decode cX12_lies 21 = .ok (.aload_n 0, 1) := by decide +kernel
theorem dX12_lies_22 : decode cX12_lies 22 = .ok (.getfield 47, 3) := by decide +kernel
theorem dX12_lies_25 : decode cX12_lies 25 = .ok (.iload_n 3, 1) := by decide +kernel
theorem dX12_lies_26 : decode cX12_lies 26 = .ok (.iaload, 1) := by decide +kernel
theorem dX12_lies_27 : decode cX12_lies 27 = .ok (.aload_n 0, 1) := by decide +kernel
theorem dX12_lies_28 : decode cX12_lies 28 = .ok (.getfield 47, 3) := by decide +kernel
theorem dX12_lies_31 : decode cX12_lies 31 = .ok (.iload_n 3, 1) := by decide +kernel
theorem dX12_lies_32 : decode cX12_lies 32 = .ok (.iconst 1, 1) := by decide +kernel
theorem dX12_lies_33 : decode cX12_lies 33 = .ok (.iadd, 1) := by decide +kernel
theorem dX12_lies_34 : decode cX12_lies 34 = .ok (.iaload, 1) := by decide +kernel
theorem dX12_lies_35 : decode cX12_lies 35 = .ok (.if_icmp .eq 36, 3) := by decide +kernel
theorem dX12_lies_38 : decode cX12_lies 38 = .ok (.aload_n 0, 1) := by decide +kernel
theorem dX12_lies_39 : decode cX12_lies 39 = .ok (.aload_n 0, 1) := by decide +kernel
theorem dX12_lies_40 : decode cX12_lies 40 = .ok (.getfield 47, 3) := by decide +kernel
theorem dX12_lies_43 : decode cX12_lies 43 = .ok (.iload_n 3, 1) := by decide +kernel
theorem dX12_lies_44 : decode cX12_lies 44 = .ok (.iaload, 1) := by decide +kernel
theorem dX12_lies_45 : decode cX12_lies 45 = .ok (.aload_n 0, 1) := by decide +kernel
theorem dX12_lies_46 : decode cX12_lies 46 = .ok (.getfield 47, 3) := by decide +kernel
theorem dX12_lies_49 : decode cX12_lies 49 = .ok (.iload_n 3, 1) := by decide +kernel
theorem dX12_lies_50 : decode cX12_lies 50 = .ok (.iconst 2, 1) := by decide +kernel
theorem dX12_lies_51 : decode cX12_lies 51 = .ok (.iadd, 1) := by decide +kernel
theorem dX12_lies_52 : decode cX12_lies 52 = .ok (.iaload, 1) := by decide +kernel
theorem dX12_lies_53 : decode cX12_lies 53 = .ok (.aload_n 0, 1) := by decide +kernel
theorem dX12_lies_54 : decode cX12_lies 54 = .ok (.getfield 47, 3) := by decide +kernel
theorem dX12_lies_57 : decode cX12_lies 57 = .ok (.iload_n 3, 1) := by decide +kernel
theorem dX12_lies_58 : decode cX12_lies 58 = .ok (.iconst 1, 1) := by decide +kernel
theorem dX12_lies_59 : decode cX12_lies 59 = .ok (.iadd, 1) := by decide +kernel
theorem dX12_lies_60 : decode cX12_lies 60 = .ok (.iaload, 1) := by decide +kernel
theorem dX12_lies_61 : decode cX12_lies 61 = .ok (.invokevirtual 155, 3) := by decide +kernel
theorem dX12_lies_64 : decode cX12_lies 64 = .ok (.ifCond .eq 7, 3) := by decide +kernel
theorem dX12_lies_67 : decode cX12_lies 67 = .ok (.iconst 0, 1) := by decide +kernel
theorem dX12_lies_68 : decode cX12_lies 68 = .ok (.goto 6, 3) := by decide +kernel
theorem dX12_lies_71 : decode cX12_lies 71 = .ok (.iconst 1, 1) := by decide +kernel
theorem dX12_lies_72 : decode cX12_lies 72 = .ok (.iload_n 2, 1) := by decide +kernel
theorem dX12_lies_73 : decode cX12_lies 73 = .ok (.ishl, 1) := by decide +kernel
theorem dX12_lies_74 : decode cX12_lies 74 = .ok (.ior, 1) := by decide +kernel
theorem dX12_lies_75 : decode cX12_lies 75 = .ok (.istore_n 1, 1) := by decide +kernel
theorem dX12_lies_76 : decode cX12_lies 76 = .ok (.iinc 2 1, 3) := by decide +kernel
theorem dX12_lies_79 : decode cX12_lies 79 = .ok (.goto (-75), 3) := by decide +kernel
theorem dX12_lies_82 : decode cX12_lies 82 = .ok (.iload_n 1, 1) := by decide +kernel
theorem dX12_lies_83 : decode cX12_lies 83 = .ok (.ireturn, 1) := by decide +kernel
theorem dX12_lure_0 : decode cX12_lure 0 = .ok (.iload_n 1, 1) := by decide +kernel
theorem dX12_lure_1 : decode cX12_lure 1 = .ok (.iconst 0, 1) := by decide +kernel
theorem dX12_lure_2 : decode cX12_lure 2 = .ok (.iconst 1, 1) := by decide +kernel
theorem dX12_lure_3 : decode cX12_lure 3 = .ok (.invokestatic 94, 3) := by decide +kernel
theorem dX12_lure_6 : decode cX12_lure 6 = .ok (.ifCond .ne 5, 3) := by decide +kernel
theorem dX12_lure_9 : decode cX12_lure 9 = .ok (.iconst (-1), 1) := by decide +kernel
theorem dX12_lure_10 : decode cX12_lure 10 = .ok (.ireturn, 1) := by decide +kernel
theorem dX12_lure_11 : decode cX12_lure 11 = .ok (.aload_n 0, 1) := by decide +kernel
theorem dX12_lure_12 : decode cX12_lure 12 = .ok (.iconst 0, 1) := by decide +kernel
theorem dX12_lure_13 : decode cX12_lure 13 = .ok (.invokevirtual 200, 3) := by decide +kernel
theorem dX12_lure_16 : decode cX12_lure 16 = .ok (.istore_n 2, 1) := by decide +kernel
theorem dX12_lure_17 : decode cX12_lure 17 = .ok (.bipush (-4), 2) := by decide +kernel
theorem dX12_lure_19 : decode cX12_lure 19 = .ok (.istore_n 3, 1) := by decide +kernel
theorem dX12_lure_20 : decode cX12_lure 20 = .ok (.iconst 0, 1) := by decide +kernel
theorem dX12_lure_21 : decode cX12_lure 21 = .ok (.istore 4, 2) := by decide +kernel
theorem dX12_lure_23 : decode cX12_lure 23 = .ok (.iload 4, 2) := by decide +kernel
theorem dX12_lure_25 : decode cX12_lure 25 = .ok (.aload_n 0, 1) := by decide +kernel
theorem dX12_lure_26 : decode cX12_lure 26 = .ok (.getfield 13, 3) := by decide +kernel
theorem dX12_lure_29 : decode cX12_lure 29 = .ok (.iconst 0, 1) := by decide +kernel
theorem dX12_lure_30 : decode cX12_lure 30 = .ok (.iaload, 1) := by decide +kernel
theorem dX12_lure_31 : decode cX12_lure 31 = .ok (.if_icmp .ge 136, 3) := by decide +kernel
theorem dX12_lure_34 : decode cX12_lure 34 = .ok (.iconst 0, 1) := by decide +kernel
theorem dX12_lure_35 : decode cX12_lure 35 = .ok (.istore 5, 2) := by decide +kernel
theorem dX12_lure_37 : decode cX12_lure 37 = .ok (.iload 5, 2) := by decide +kernel
theorem dX12_lure_39 : decode cX12_lure 39 = .ok (.aload_n 0, 1) := by decide +kernel
theorem dX12_lure_40 : decode cX12_lure 40 = .ok (.getfield 13, 3) := by decide +kernel
theorem dX12_lure_43 : decode cX12_lure 43 = .ok (.iconst 0, 1) := by decide +kernel
theorem dX12_lure_44 : decode cX12_lure 44 = .ok (.iaload, 1) := by decide +kernel
theorem dX12_lure_45 : decode cX12_lure 45 = .ok (.if_icmp .ge 116, 3) := by decide +kernel
theorem dX12_lure_48 : decode cX12_lure 48 = .ok (.iconst 0, 1) := by decide +kernel
theorem dX12_lure_49 : decode cX12_lure 49 = .ok (.istore 6, 2) := by decide +kernel
theorem dX12_lure_51 : decode cX12_lure 51 = .ok (.iload 6, 2) := by decide +kernel
theorem dX12_lure_53 : decode cX12_lure 53 = .ok (.aload_n 0, 1) := by decide +kernel
theorem dX12_lure_54 : decode cX12_lure 54 = .ok (.getfield 13, 3) := by decide +kernel
theorem dX12_lure_57 : decode cX12_lure 57 = .ok (.iconst 0, 1) := by decide +kernel
theorem dX12_lure_58 : decode cX12_lure 58 = .ok (.iaload, 1) := by decide +kernel
theorem dX12_lure_59 : decode cX12_lure 59 = .ok (.if_icmp .ge 96, 3) := by decide +kernel
theorem dX12_lure_62 : decode cX12_lure 62 = .ok (.aload_n 0, 1) := by decide +kernel
theorem dX12_lure_63 : decode cX12_lure 63 = .ok (.getfield 50, 3) := by decide +kernel
theorem dX12_lure_66 : decode cX12_lure 66 = .ok (.bipush 8, 2) := by decide +kernel
theorem dX12_lure_68 : decode cX12_lure 68 = .ok (.iload 4, 2) := by decide +kernel
theorem dX12_lure_70 : decode cX12_lure 70 = .ok (.imul, 1) := by decide +kernel
theorem dX12_lure_71 : decode cX12_lure 71 = .ok (.iload 6, 2) := by decide +kernel
theorem dX12_lure_73 : decode cX12_lure 73 = .ok (.iadd, 1) := by decide +kernel
theorem dX12_lure_74 : decode cX12_lure 74 = .ok (.iaload, 1) := by decide +kernel
theorem dX12_lure_75 : decode cX12_lure 75 = .ok (.sipush 10000, 3) := by decide +kernel
theorem dX12_lure_78 : decode cX12_lure 78 = .ok (.if_icmp .ge 71, 3) := by decide +kernel
theorem dX12_lure_81 : decode cX12_lure 81 = .ok (.aload_n 0, 1) := by decide +kernel
theorem dX12_lure_82 : decode cX12_lure 82 = .ok (.iconst 0, 1) := by decide +kernel
theorem dX12_lure_83 : decode cX12_lure 83 = .ok (.sipush 352, 3) := by decide +kernel
theorem dX12_lure_86 : decode cX12_lure 86 = .ok (.invokevirtual 203, 3) := by decide +kernel
theorem dX12_lure_89 : decode cX12_lure 89 = .ok (.aload_n 0, 1) := by decide +kernel
theorem dX12_lure_90 : decode cX12_lure 90 = .ok (.sipush 352, 3) := by decide +kernel
theorem dX12_lure_93 : decode cX12_lure 93 = .ok (.iload 4, 2) := by decide +kernel
theorem dX12_lure_95 : decode cX12_lure 95 = .ok (.iload 5, 2) := by decide +kernel
theorem dX12_lure_97 : decode cX12_lure 97 = .ok (.iload 6, 2) := by decide +kernel
theorem dX12_lure_99 : decode cX12_lure 99 = .ok (.invokevirtual 209, 3) := by decide +kernel
theorem dX12_lure_102 : decode cX12_lure 102 = .ok (.aload_n 0, 1) := by decide +kernel
theorem dX12_lure_103 : decode cX12_lure 103 = .ok (.sipush 352, 3) := by decide +kernel
theorem dX12_lure_106 : decode cX12_lure 106 = .ok (.invokevirtual 200, 3) := by decide +kernel
theorem dX12_lure_109 : decode cX12_lure 109 = .ok (.istore 7, 2) := by decide +kernel
theorem dX12_lure_111 : decode cX12_lure 111 = .ok (.iload 7, 2) := by decide +kernel
theorem dX12_lure_113 : decode cX12_lure 113 = .ok (.iload_n 2, 1) := by decide +kernel
theorem dX12_lure_114 : decode cX12_lure 114 = .ok (.if_icmp .le 20, 3) := by decide +kernel
theorem dX12_lure_117 : decode cX12_lure 117 = .ok (.bipush 100, 2) := by decide +kernel
theorem dX12_lure_119 : decode cX12_lure 119 = .ok (.iload 4, 2) := by decide +kernel
theorem dX12_lure_121 : decode cX12_lure 121 = .ok (.imul, 1) := by decide +kernel
theorem dX12_lure_122 : decode cX12_lure 122 = .ok (.bipush 10, 2) := by decide +kernel
theorem dX12_lure_124 : decode cX12_lure 124 = .ok (.iload 5, 2) := by decide +kernel
theorem dX12_lure_126 : decode cX12_lure 126 = .ok (.imul, 1) := by decide +kernel
theorem dX12_lure_127 : decode cX12_lure 127 = .ok (.iadd, 1) := by decide +kernel
theorem dX12_lure_128 : decode cX12_lure 128 = .ok (.iload 6, 2) := by decide +kernel
theorem dX12_lure_130 : decode cX12_lure 130 = .ok (.iadd, 1) := by decide +kernel
theorem dX12_lure_131 : decode cX12_lure 131 = .ok (.goto 4, 3) := by decide +kernel
theorem dX12_lure_134 : decode cX12_lure 134 = .ok (.iload_n 3, 1) := by decide +kernel
theorem dX12_lure_135 : decode cX12_lure 135 = .ok (.istore_n 3, 1) := by decide +kernel
theorem dX12_lure_136 : decode cX12_lure 136 = .ok (.iload 7, 2) := by decide +kernel
theorem dX12_lure_138 : decode cX12_lure 138 = .ok (.iload_n 2, 1) := by decide +kernel
theorem dX12_lure_139 : decode cX12_lure 139 = .ok (.if_icmp .le 8, 3) := by decide +kernel
theorem dX12_lure_142 : decode cX12_lure 142 = .ok (.iload 7, 2) := by decide +kernel
theorem dX12_lure_144 : decode cX12_lure 144 = .ok (.goto 4, 3) := by decide +kernel
theorem dX12_lure_147 : decode cX12_lure 147 = .ok (.iload_n 2, 1) := by decide +kernel
theorem dX12_lure_148 : decode cX12_lure 148 = .ok (.istore_n 2, 1) := by decide +kernel
theorem dX12_lure_149 : decode cX12_lure 149 = .ok (.iinc 6 1, 3) := by decide +kernel
theorem dX12_lure_152 : decode cX12_lure 152 = .ok (.goto (-101), 3) := by decide +kernel
theorem dX12_lure_155 : decode cX12_lure 155 = .ok (.iinc 5 1, 3) := by decide +kernel
theorem dX12_lure_158 : decode cX12_lure 158 = .ok (.goto (-121), 3) := by decide +kernel
theorem dX12_lure_161 : decode cX12_lure 161 = .ok (.iinc 4 1, 3) := by decide +kernel
theorem dX12_lure_164 : decode cX12_lure 164 = .ok (.goto (-141), 3) := by decide +kernel
theorem dX12_lure_167 : decode cX12_lure 167 = .ok (.iload_n 3, 1) := by decide +kernel
theorem dX12_lure_168 : decode cX12_lure 168 = .ok (.bipush (-4), 2) := by decide +kernel
theorem dX12_lure_170 : decode cX12_lure 170 = .ok (.if_icmp .eq 7, 3) := by decide +kernel
theorem dX12_lure_173 : decode cX12_lure 173 = .ok (.iload_n 1, 1) := by decide +kernel
theorem dX12_lure_174 : decode cX12_lure 174 = .ok (.ifCond .ne 7, 3) := by decide +kernel
theorem dX12_lure_177 : decode cX12_lure 177 = .ok (.iload_n 3, 1) := by decide +kernel
theorem dX12_lure_178 : decode cX12_lure 178 = .ok (.goto 4, 3) := by decide +kernel
theorem dX12_lure_181 : decode cX12_lure 181 = .ok (.iload_n 2, 1) := by decide +kernel
theorem dX12_lure_182 : decode cX12_lure 182 = .ok (.ireturn, 1) := by decide +kernel
theorem dX12_mend_0 : decode cX12_mend 0 = .ok (.iload_n 1, 1) := by decide +kernel
theorem dX12_mend_1 : decode cX12_mend 1 = .ok (.iconst 0, 1) := by decide +kernel
theorem dX12_mend_2 : decode cX12_mend 2 = .ok (.iconst 1, 1) := by decide +kernel
theorem dX12_mend_3 : decode cX12_mend 3 = .ok (.invokestatic 94, 3) := by decide +kernel
theorem dX12_mend_6 : decode cX12_mend 6 = .ok (.ifCond .ne 5, 3) := by decide +kernel
theorem dX12_mend_9 : decode cX12_mend 9 = .ok (.iconst (-1), 1) := by decide +kernel
theorem dX12_mend_10 : decode cX12_mend 10 = .ok (.ireturn, 1) := by decide +kernel
theorem dX12_mend_11 : decode cX12_mend 11 = .ok (.bipush (-4), 2) := by decide +kernel
theorem dX12_mend_13 : decode cX12_mend 13 = .ok (.istore_n 2, 1) := by decide +kernel
theorem dX12_mend_14 : decode cX12_mend 14 = .ok (.bipush (-4), 2) := by decide +kernel
theorem dX12_mend_16 : decode cX12_mend 16 = .ok (.istore_n 3, 1) := by decide +kernel
theorem dX12_mend_17 : decode cX12_mend 17 = .ok (.iconst 0, 1) := by decide +kernel
theorem dX12_mend_18 : decode cX12_mend 18 = .ok (.istore 4, 2) := by decide +kernel
theorem dX12_mend_20 : decode cX12_mend 20 = .ok (.iload 4, 2) := by decide +kernel
theorem dX12_mend_22 : decode cX12_mend 22 = .ok (.aload_n 0, 1) := by decide +kernel
theorem dX12_mend_23 : decode cX12_mend 23 = .ok (.getfield 47, 3) := by decide +kernel
theorem dX12_mend_26 : decode cX12_mend 26 = .ok (.iconst 0, 1) := by decide +kernel
theorem dX12_mend_27 : decode cX12_mend 27 = .ok (.iaload, 1) := by decide +kernel
theorem dX12_mend_28 : decode cX12_mend 28 = .ok (.if_icmp .ge 53, 3) := by decide +kernel
theorem dX12_mend_31 : decode cX12_mend 31 = .ok (.aload_n 0, 1) := by decide +kernel
theorem dX12_mend_32 : decode cX12_mend 32 = .ok (.iconst 0, 1) := by decide +kernel
theorem dX12_mend_33 : decode cX12_mend 33 = .ok (.sipush 352, 3) := by decide +kernel
theorem dX12_mend_36 : decode cX12_mend 36 = .ok (.invokevirtual 203, 3) := by decide +kernel
theorem dX12_mend_39 : decode cX12_mend 39 = .ok (.aload_n 0, 1) := by decide +kernel
theorem dX12_mend_40 : decode cX12_mend 40 = .ok (.sipush 352, 3) := by decide +kernel
theorem dX12_mend_43 : decode cX12_mend 43 = .ok (.iload 4, 2) := by decide +kernel
theorem dX12_mend_45 : decode cX12_mend 45 = .ok (.invokevirtual 213, 3) := by decide +kernel
theorem dX12_mend_48 : decode cX12_mend 48 = .ok (.aload_n 0, 1) := by decide +kernel
theorem dX12_mend_49 : decode cX12_mend 49 = .ok (.sipush 352, 3) := by decide +kernel
theorem dX12_mend_52 : decode cX12_mend 52 = .ok (.invokevirtual 200, 3) := by decide +kernel
theorem dX12_mend_55 : decode cX12_mend 55 = .ok (.istore 5, 2) := by decide +kernel
theorem dX12_mend_57 : decode cX12_mend 57 = .ok (.iload_n 3, 1) := by decide +kernel
theorem dX12_mend_58 : decode cX12_mend 58 = .ok (.bipush (-4), 2) := by decide +kernel
theorem dX12_mend_60 : decode cX12_mend 60 = .ok (.if_icmp .eq 9, 3) := by decide +kernel
theorem dX12_mend_63 : decode cX12_mend 63 = .ok (.iload 5, 2) := by decide +kernel
theorem dX12_mend_65 : decode cX12_mend 65 = .ok (.iload_n 2, 1) := by decide +kernel
theorem dX12_mend_66 : decode cX12_mend 66 = .ok (.if_icmp .ge 9, 3) := by decide +kernel
theorem dX12_mend_69 : decode cX12_mend 69 = .ok (.iload 4, 2) := by decide +kernel
theorem dX12_mend_71 : decode cX12_mend 71 = .ok (.istore_n 3, 1) := by decide +kernel
theorem dX12_mend_72 : decode cX12_mend 72 = .ok (.iload 5, 2) := by decide +kernel
theorem dX12_mend_74 : decode cX12_mend 74 = .ok (.istore_n 2, 1) := by decide +kernel
theorem dX12_mend_75 : decode cX12_mend 75 = .ok (.iinc 4 1, 3) := by decide +kernel
theorem dX12_mend_78 : decode cX12_mend 78 = .ok (.goto (-58), 3) := by decide +kernel
theorem dX12_mend_81 : decode cX12_mend 81 = .ok (.iload_n 1, 1) := by decide +kernel
theorem dX12_mend_82 : decode cX12_mend 82 = .ok (.ifCond .ne 7, 3) := by decide +kernel
theorem dX12_mend_85 : decode cX12_mend 85 = .ok (.iload_n 3, 1) := by decide +kernel
theorem dX12_mend_86 : decode cX12_mend 86 = .ok (.goto 4, 3) := by decide +kernel
theorem dX12_mend_89 : decode cX12_mend 89 = .ok (.iload_n 2, 1) := by decide +kernel
theorem dX12_mend_90 : decode cX12_mend 90 = .ok (.ireturn, 1) := by decide +kernel
theorem dX12_best_0 : decode cX12_best 0 = .ok (.aload_n 0, 1) := by decide +kernel
theorem dX12_best_1 : decode cX12_best 1 = .ok (.iload_n 1, 1) := by decide +kernel
theorem dX12_best_2 : decode cX12_best 2 = .ok (.invokevirtual 152, 3) := by decide +kernel
theorem dX12_best_5 : decode cX12_best 5 = .ok (.ifCond .eq 12, 3) := by decide +kernel
theorem dX12_best_8 : decode cX12_best 8 = .ok (.iload_n 2, 1) := by decide +kernel
theorem dX12_best_9 : decode cX12_best 9 = .ok (.iconst 0, 1) := by decide +kernel
theorem dX12_best_10 : decode cX12_best 10 = .ok (.iconst 1, 1) := by decide +kernel
theorem dX12_best_11 : decode cX12_best 11 = .ok (.invokestatic 94, 3) := by decide +kernel
theorem dX12_best_14 : decode cX12_best 14 = .ok (.ifCond .ne 5, 3) := by decide +kernel
theorem dX12_best_17 : decode cX12_best 17 = .ok (.iconst (-1), 1) := by decide +kernel
theorem dX12_best_18 : decode cX12_best 18 = .ok (.ireturn, 1) := by decide +kernel
theorem dX12_best_19 : decode cX12_best 19 = .ok (.bipush (-4), 2) := by decide +kernel
theorem dX12_best_21 : decode cX12_best 21 = .ok (.istore_n 3, 1) := by decide +kernel
theorem dX12_best_22 : decode cX12_best 22 = .ok (.bipush (-4), 2) := by decide +kernel
theorem dX12_best_24 : decode cX12_best 24 = .ok (.istore 4, 2) := by decide +kernel
theorem dX12_best_26 : decode cX12_best 26 = .ok (.iconst 0, 1) := by decide +kernel
theorem dX12_best_27 : decode cX12_best 27 = .ok (.istore 5, 2) := by decide +kernel
theorem dX12_best_29 : decode cX12_best 29 = .ok (.iload 5, 2) := by decide +kernel
theorem dX12_best_31 : decode cX12_best 31 = .ok (.aload_n 0, 1) := by decide +kernel
theorem dX12_best_32 : decode cX12_best 32 = .ok (.getfield 13, 3) := by decide +kernel
theorem dX12_best_35 : decode cX12_best 35 = .ok (.iconst 0, 1) := by decide +kernel
theorem dX12_best_36 : decode cX12_best 36 = .ok (.iaload, 1) := by decide +kernel
theorem dX12_best_37 : decode cX12_best 37 = .ok (.if_icmp .ge 58, 3) := by decide +kernel
theorem dX12_best_40 : decode cX12_best 40 = .ok (.aload_n 0, 1) := by decide +kernel
theorem dX12_best_41 : decode cX12_best 41 = .ok (.iconst 0, 1) := by decide +kernel
theorem dX12_best_42 : decode cX12_best 42 = .ok (.aload_n 0, 1) := by decide +kernel
theorem dX12_best_43 : decode cX12_best 43 = .ok (.getfield 32, 3) := by decide +kernel
theorem dX12_best_46 : decode cX12_best 46 = .ok (.iload_n 1, 1) := by decide +kernel
theorem dX12_best_47 : decode cX12_best 47 = .ok (.iaload, 1) := by decide +kernel
theorem dX12_best_48 : decode cX12_best 48 = .ok (.aload_n 0, 1) := by decide +kernel
theorem dX12_best_49 : decode cX12_best 49 = .ok (.getfield 35, 3) := by decide +kernel
theorem dX12_best_52 : decode cX12_best 52 = .ok (.iload_n 1, 1) := by decide +kernel
theorem dX12_best_53 : decode cX12_best 53 = .ok (.iaload, 1) := by decide +kernel
theorem dX12_best_54 : decode cX12_best 54 = .ok (.aload_n 0, 1) := by decide +kernel
theorem dX12_best_55 : decode cX12_best 55 = .ok (.getfield 38, 3) := by decide +kernel
theorem dX12_best_58 : decode cX12_best 58 = .ok (.iload_n 1, 1) := by decide +kernel
theorem dX12_best_59 : decode cX12_best 59 = .ok (.iaload, 1) := by decide +kernel
theorem dX12_best_60 : decode cX12_best 60 = .ok (.iload 5, 2) := by decide +kernel
theorem dX12_best_62 : decode cX12_best 62 = .ok (.invokevirtual 189, 3) := by decide +kernel
theorem dX12_best_65 : decode cX12_best 65 = .ok (.iload 4, 2) := by decide +kernel
theorem dX12_best_67 : decode cX12_best 67 = .ok (.bipush (-4), 2) := by decide +kernel
theorem dX12_best_69 : decode cX12_best 69 = .ok (.if_icmp .eq 11, 3) := by decide +kernel
theorem dX12_best_72 : decode cX12_best 72 = .ok (.aload_n 0, 1) := by decide +kernel
theorem dX12_best_73 : decode cX12_best 73 = .ok (.getfield 179, 3) := by decide +kernel
theorem dX12_best_76 : decode cX12_best 76 = .ok (.iload_n 3, 1) := by decide +kernel
theorem dX12_best_77 : decode cX12_best 77 = .ok (.if_icmp .ge 12, 3) := by decide +kernel
theorem dX12_best_80 : decode cX12_best 80 = .ok (.iload 5, 2) := by decide +kernel
theorem dX12_best_82 : decode cX12_best 82 = .ok (.istore 4, 2) := by decide +kernel
theorem dX12_best_84 : decode cX12_best 84 = .ok (.aload_n 0, 1) := by decide +kernel
theorem dX12_best_85 : decode cX12_best 85 = .ok (.getfield 179, 3) := by decide +kernel
theorem dX12_best_88 : decode cX12_best 88 = .ok (.istore_n 3, 1) := by decide +kernel
theorem dX12_best_89 : decode cX12_best 89 = .ok (.iinc 5 1, 3) := by decide +kernel
theorem dX12_best_92 : decode cX12_best 92 = .ok (.goto (-63), 3) := by decide +kernel
theorem dX12_best_95 : decode cX12_best 95 = .ok (.iload_n 2, 1) := by decide +kernel
theorem dX12_best_96 : decode cX12_best 96 = .ok (.ifCond .ne 8, 3) := by decide +kernel
theorem dX12_best_99 : decode cX12_best 99 = .ok (.iload 4, 2) := by decide +kernel
theorem dX12_best_101 : decode cX12_best 101 = .ok (.goto 4, 3) := by decide +kernel
theorem dX12_best_104 : decode cX12_best 104 = .ok (.iload_n 3, 1) := by decide +kernel
theorem dX12_best_105 : decode cX12_best 105 = .ok (.ireturn, 1) := by decide +kernel
theorem dX12_watch_0 : decode cX12_watch 0 = .ok (.iload_n 1, 1) := by decide +kernel
theorem dX12_watch_1 : decode cX12_watch 1 = .ok (.iconst 0, 1) := by decide +kernel
theorem dX12_watch_2 : decode cX12_watch 2 = .ok (.iconst 1, 1) := by decide +kernel
theorem dX12_watch_3 : decode cX12_watch 3 = .ok (.invokestatic 94, 3) := by decide +kernel
theorem dX12_watch_6 : decode cX12_watch 6 = .ok (.ifCond .ne 5, 3) := by decide +kernel
theorem dX12_watch_9 : decode cX12_watch 9 = .ok (.iconst (-1), 1) := by decide +kernel
theorem dX12_watch_10 : decode cX12_watch 10 = .ok (.ireturn, 1) := by decide +kernel
theorem dX12_watch_11 : decode cX12_watch 11 = .ok (.iconst 0, 1) := by decide +kernel
theorem dX12_watch_12 : decode cX12_watch 12 = .ok (.istore_n 2, 1) := by decide +kernel
theorem dX12_watch_13 : decode cX12_watch 13 = .ok (.iload_n 2, 1) := by decide +kernel
theorem dX12_watch_14 : decode cX12_watch 14 = .ok (.bipush 8, 2) := by decide +kernel
theorem dX12_watch_16 : decode cX12_watch 16 = .ok (.if_icmp .ge 16, 3) := by decide +kernel
theorem dX12_watch_19 : decode cX12_watch 19 = .ok (.aload_n 0, 1) := by decide +kernel
theorem dX12_watch_20 : decode cX12_watch 20 = .ok (.getfield 59, 3) := by decide +kernel
theorem dX12_watch_23 : decode cX12_watch 23 = .ok (.iload_n 2, 1) := by decide +kernel
theorem dX12_watch_24 : decode cX12_watch 24 = .ok (.iconst 0, 1) := by decide +kernel
theorem dX12_watch_25 : decode cX12_watch 25 = .ok (.iastore, 1) := by decide +kernel
theorem dX12_watch_26 : decode cX12_watch 26 = .ok (.iinc 2 1, 3) := by decide +kernel
theorem dX12_watch_29 : decode cX12_watch 29 = .ok (.goto (-16), 3) := by decide +kernel
theorem dX12_watch_32 : decode cX12_watch 32 = .ok (.aload_n 0, 1) := by decide +kernel
theorem dX12_watch_33 : decode cX12_watch 33 = .ok (.iconst 0, 1) := by decide +kernel
theorem dX12_watch_34 : decode cX12_watch 34 = .ok (.invokevirtual 200, 3) := by decide +kernel
theorem dX12_watch_37 : decode cX12_watch 37 = .ok (.pop, 1) := by decide +kernel
theorem dX12_watch_38 : decode cX12_watch 38 = .ok (.iconst 0, 1) := by decide +kernel
theorem dX12_watch_39 : decode cX12_watch 39 = .ok (.istore_n 2, 1) := by decide +kernel
theorem dX12_watch_40 : decode cX12_watch 40 = .ok (.iconst 1, 1) := by decide +kernel
theorem dX12_watch_41 : decode cX12_watch 41 = .ok (.istore_n 3, 1) := by decide +kernel
theorem dX12_watch_42 : decode cX12_watch 42 = .ok (.iload_n 3, 1) := by decide +kernel
theorem dX12_watch_43 : decode cX12_watch 43 = .ok (.aload_n 0, 1) := by decide +kernel
theorem dX12_watch_44 : decode cX12_watch 44 = .ok (.getfield 13, 3) := by decide +kernel
theorem dX12_watch_47 : decode cX12_watch 47 = .ok (.iconst 0, 1) := by decide +kernel
theorem dX12_watch_48 : decode cX12_watch 48 = .ok (.iaload, 1) := by decide +kernel
theorem dX12_watch_49 : decode cX12_watch 49 = .ok (.if_icmp .ge 30, 3) := by decide +kernel
theorem dX12_watch_52 : decode cX12_watch 52 = .ok (.aload_n 0, 1) := by decide +kernel
theorem dX12_watch_53 : decode cX12_watch 53 = .ok (.getfield 59, 3) := by decide +kernel
theorem dX12_watch_56 : decode cX12_watch 56 = .ok (.iload_n 3, 1) := by decide +kernel
theorem dX12_watch_57 : decode cX12_watch 57 = .ok (.iaload, 1) := by decide +kernel
theorem dX12_watch_58 : decode cX12_watch 58 = .ok (.aload_n 0, 1) := by decide +kernel
theorem dX12_watch_59 : decode cX12_watch 59 = .ok (.getfield 59, 3) := by decide +kernel
theorem dX12_watch_62 : decode cX12_watch 62 = .ok (.iload_n 2, 1) := by decide +kernel
theorem dX12_watch_63 : decode cX12_watch 63 = .ok (.iaload, 1) := by decide +kernel
theorem dX12_watch_64 : decode cX12_watch 64 = .ok (.if_icmp .le 7, 3) := by decide +kernel
theorem dX12_watch_67 : decode cX12_watch 67 = .ok (.iload_n 3, 1) := by decide +kernel
theorem dX12_watch_68 : decode cX12_watch 68 = .ok (.goto 4, 3) := by decide +kernel
theorem dX12_watch_71 : decode cX12_watch 71 = .ok (.iload_n 2, 1) := by decide +kernel
theorem dX12_watch_72 : decode cX12_watch 72 = .ok (.istore_n 2, 1) := by decide +kernel
theorem dX12_watch_73 : decode cX12_watch 73 = .ok (.iinc 3 1, 3) := by decide +kernel
theorem dX12_watch_76 : decode cX12_watch 76 = .ok (.goto (-34), 3) := by decide +kernel
theorem dX12_watch_79 : decode cX12_watch 79 = .ok (.iload_n 1, 1) := by decide +kernel
theorem dX12_watch_80 : decode cX12_watch 80 = .ok (.ifCond .ne 7, 3) := by decide +kernel
theorem dX12_watch_83 : decode cX12_watch 83 = .ok (.iload_n 2, 1) := by decide +kernel
theorem dX12_watch_84 : decode cX12_watch 84 = .ok (.goto 9, 3) := by decide +kernel
theorem dX12_watch_87 : decode cX12_watch 87 = .ok (.aload_n 0, 1) := by decide +kernel
theorem dX12_watch_88 : decode cX12_watch 88 = .ok (.getfield 59, 3) := by decide +kernel
theorem dX12_watch_91 : decode cX12_watch 91 = .ok (.iload_n 2, 1) := by decide +kernel
theorem dX12_watch_92 : decode cX12_watch 92 = .ok (.iaload, 1) := by decide +kernel
theorem dX12_watch_93 : decode cX12_watch 93 = .ok (.ireturn, 1) := by decide +kernel
theorem dX12_moreWithout_0 : decode cX12_moreWithout 0 = .ok (.aload_n 0, 1) := by decide +kernel
theorem dX12_moreWithout_1 : decode cX12_moreWithout 1 = .ok (.iload_n 1, 1) := by decide +kernel
theorem dX12_moreWithout_2 : decode cX12_moreWithout 2 = .ok (.invokevirtual 138, 3) := by decide +kernel
theorem dX12_moreWithout_5 : decode cX12_moreWithout 5 = .ok (.iconst 0, 1) := by decide +kernel
theorem dX12_moreWithout_6 : decode cX12_moreWithout 6 = .ok (.istore_n 2, 1) := by decide +kernel
theorem dX12_moreWithout_7 : decode cX12_moreWithout 7 = .ok (.iconst 0, 1) := by decide +kernel
theorem dX12_moreWithout_8 : decode cX12_moreWithout 8 = .ok (.istore_n 3, 1) := by decide +kernel
theorem dX12_moreWithout_9 : decode cX12_moreWithout 9 = .ok (.iload_n 3, 1) := by decide +kernel
theorem dX12_moreWithout_10 : decode cX12_moreWithout 10 = .ok (.aload_n 0, 1) := by decide +kernel
theorem dX12_moreWithout_11 : decode cX12_moreWithout 11 = .ok (.getfield 29, 3) := by decide +kernel
theorem dX12_moreWithout_14 : decode cX12_moreWithout 14 = .ok (.iconst 0, 1) := by decide +kernel
theorem dX12_moreWithout_15 : decode cX12_moreWithout 15 = .ok (.iaload, 1) := by decide +kernel
theorem dX12_moreWithout_16 : decode cX12_moreWithout 16 = .ok (.if_icmp .ge 76, 3) := by decide +kernel
theorem dX12_moreWithout_19 : decode cX12_moreWithout 19 = .ok (.aload_n 0, 1) := by decide +kernel
theorem dX12_moreWithout_20 : decode cX12_moreWithout 20 = .ok (.getfield 53, 3) := by decide +kernel
theorem dX12_moreWithout_23 : decode cX12_moreWithout 23 = .ok (.bipush 8, 2) := by decide +kernel
theorem dX12_moreWithout_25 : decode cX12_moreWithout 25 = .ok (.aload_n 0, 1) := by decide +kernel
theorem dX12_moreWithout_26 : decode cX12_moreWithout 26 = .ok (.getfield 35, 3) := by decide +kernel
theorem dX12_moreWithout_29 : decode cX12_moreWithout 29 = .ok (.iload_n 3, 1) := by decide +kernel
theorem dX12_moreWithout_30 : decode cX12_moreWithout 30 = .ok (.iaload, 1) := by decide +kernel
theorem dX12_moreWithout_31 : decode cX12_moreWithout 31 = .ok (.imul, 1) := by decide +kernel
theorem dX12_moreWithout_32 : decode cX12_moreWithout 32 = .ok (.aload_n 0, 1) := by decide +kernel
theorem dX12_moreWithout_33 : decode cX12_moreWithout 33 = .ok (.getfield 38, 3) := by decide +kernel
theorem dX12_moreWithout_36 : decode cX12_moreWithout 36 = .ok (.iload_n 3, 1) := by decide +kernel
theorem dX12_moreWithout_37 : decode cX12_moreWithout 37 = .ok (.iaload, 1) := by decide +kernel
theorem dX12_moreWithout_38 : decode cX12_moreWithout 38 = .ok (.iadd, 1) := by decide +kernel
theorem dX12_moreWithout_39 : decode cX12_moreWithout 39 = .ok (.iaload, 1) := by decide +kernel
theorem dX12_moreWithout_40 : decode cX12_moreWithout 40 = .ok (.istore 4, 2) := by decide +kernel
theorem dX12_moreWithout_42 : decode cX12_moreWithout 42 = .ok (.iload_n 2, 1) := by decide +kernel
theorem dX12_moreWithout_43 : decode cX12_moreWithout 43 = .ok (.iload 4, 2) := by decide +kernel
theorem dX12_moreWithout_45 : decode cX12_moreWithout 45 = .ok (.sipush 10000, 3) := by decide +kernel
theorem dX12_moreWithout_48 : decode cX12_moreWithout 48 = .ok (.if_icmp .lt 9, 3) := by decide +kernel
theorem dX12_moreWithout_51 : decode cX12_moreWithout 51 = .ok (.sipush 200, 3) := by decide +kernel
theorem dX12_moreWithout_54 : decode cX12_moreWithout 54 = .ok (.goto 5, 3) := by decide +kernel
theorem dX12_moreWithout_57 : decode cX12_moreWithout 57 = .ok (.iload 4, 2) := by decide +kernel
theorem dX12_moreWithout_59 : decode cX12_moreWithout 59 = .ok (.aload_n 0, 1) := by decide +kernel
theorem dX12_moreWithout_60 : decode cX12_moreWithout 60 = .ok (.getfield 62, 3) := by decide +kernel
theorem dX12_moreWithout_63 : decode cX12_moreWithout 63 = .ok (.iload_n 3, 1) := by decide +kernel
theorem dX12_moreWithout_64 : decode cX12_moreWithout 64 = .ok (.iaload, 1) := by decide +kernel
theorem dX12_moreWithout_65 : decode cX12_moreWithout 65 = .ok (.sipush 10000, 3) := by decide +kernel
theorem dX12_moreWithout_68 : decode cX12_moreWithout 68 = .ok (.if_icmp .lt 9, 3) := by decide +kernel
theorem dX12_moreWithout_71 : decode cX12_moreWithout 71 = .ok (.sipush 200, 3) := by decide +kernel
theorem dX12_moreWithout_74 : decode cX12_moreWithout 74 = .ok (.goto 9, 3) := by decide +kernel
theorem dX12_moreWithout_77 : decode cX12_moreWithout 77 = .ok (.aload_n 0, 1) := by decide +kernel
theorem dX12_moreWithout_78 : decode cX12_moreWithout 78 = .ok (.getfield 62, 3) := by decide +kernel
theorem dX12_moreWithout_81 : decode cX12_moreWithout 81 = .ok (.iload_n 3, 1) := by decide +kernel
theorem dX12_moreWithout_82 : decode cX12_moreWithout 82 = .ok (.iaload, 1) := by decide +kernel
theorem dX12_moreWithout_83 : decode cX12_moreWithout 83 = .ok (.isub, 1) := by decide +kernel
theorem dX12_moreWithout_84 : decode cX12_moreWithout 84 = .ok (.iadd, 1) := by decide +kernel
theorem dX12_moreWithout_85 : decode cX12_moreWithout 85 = .ok (.istore_n 2, 1) := by decide +kernel
theorem dX12_moreWithout_86 : decode cX12_moreWithout 86 = .ok (.iinc 3 1, 3) := by decide +kernel
theorem dX12_moreWithout_89 : decode cX12_moreWithout 89 = .ok (.goto (-80), 3) := by decide +kernel
theorem dX12_moreWithout_92 : decode cX12_moreWithout 92 = .ok (.iload_n 2, 1) := by decide +kernel
theorem dX12_moreWithout_93 : decode cX12_moreWithout 93 = .ok (.ireturn, 1) := by decide +kernel
theorem dX12_missed_0 : decode cX12_missed 0 = .ok (.iload_n 1, 1) := by decide +kernel
theorem dX12_missed_1 : decode cX12_missed 1 = .ok (.iconst 0, 1) := by decide +kernel
theorem dX12_missed_2 : decode cX12_missed 2 = .ok (.iconst 1, 1) := by decide +kernel
theorem dX12_missed_3 : decode cX12_missed 3 = .ok (.invokestatic 94, 3) := by decide +kernel
theorem dX12_missed_6 : decode cX12_missed 6 = .ok (.ifCond .ne 5, 3) := by decide +kernel
theorem dX12_missed_9 : decode cX12_missed 9 = .ok (.iconst (-1), 1) := by decide +kernel
theorem dX12_missed_10 : decode cX12_missed 10 = .ok (.ireturn, 1) := by decide +kernel
theorem dX12_missed_11 : decode cX12_missed 11 = .ok (.iconst 0, 1) := by decide +kernel
theorem dX12_missed_12 : decode cX12_missed 12 = .ok (.istore_n 2, 1) := by decide +kernel
theorem dX12_missed_13 : decode cX12_missed 13 = .ok (.iload_n 2, 1) := by decide +kernel
theorem dX12_missed_14 : decode cX12_missed 14 = .ok (.aload_n 0, 1) := by decide +kernel
theorem dX12_missed_15 : decode cX12_missed 15 = .ok (.getfield 29, 3) := by decide +kernel
theorem dX12_missed_18 : decode cX12_missed 18 = .ok (.iconst 0, 1) := by decide +kernel
theorem dX12_missed_19 : decode cX12_missed 19 = .ok (.iaload, 1) := by decide +kernel
theorem dX12_missed_20 : decode cX12_missed 20 = .ok (.if_icmp .ge 36, 3) := by decide +kernel
theorem dX12_missed_23 : decode cX12_missed 23 = .ok (.aload_n 0, 1) := by decide +kernel
theorem dX12_missed_24 : decode cX12_missed 24 = .ok (.getfield 62, 3) := by decide +kernel
theorem dX12_missed_27 : decode cX12_missed 27 = .ok (.iload_n 2, 1) := by decide +kernel
theorem dX12_missed_28 : decode cX12_missed 28 = .ok (.aload_n 0, 1) := by decide +kernel
theorem dX12_missed_29 : decode cX12_missed 29 = .ok (.getfield 53, 3) := by decide +kernel
theorem dX12_missed_32 : decode cX12_missed 32 = .ok (.bipush 8, 2) := by decide +kernel
theorem dX12_missed_34 : decode cX12_missed 34 = .ok (.aload_n 0, 1) := by decide +kernel
theorem dX12_missed_35 : decode cX12_missed 35 = .ok (.getfield 35, 3) := by decide +kernel
theorem dX12_missed_38 : decode cX12_missed 38 = .ok (.iload_n 2, 1) := by decide +kernel
theorem dX12_missed_39 : decode cX12_missed 39 = .ok (.iaload, 1) := by decide +kernel
theorem dX12_missed_40 : decode cX12_missed 40 = .ok (.imul, 1) := by decide +kernel
theorem dX12_missed_41 : decode cX12_missed 41 = .ok (.aload_n 0, 1) := by decide +kernel
theorem dX12_missed_42 : decode cX12_missed 42 = .ok (.getfield 38, 3) := by decide +kernel
theorem dX12_missed_45 : decode cX12_missed 45 = .ok (.iload_n 2, 1) := by decide +kernel
theorem dX12_missed_46 : decode cX12_missed 46 = .ok (.iaload, 1) := by decide +kernel
theorem dX12_missed_47 : decode cX12_missed 47 = .ok (.iadd, 1) := by decide +kernel
theorem dX12_missed_48 : decode cX12_missed 48 = .ok (.iaload, 1) := by decide +kernel
theorem dX12_missed_49 : decode cX12_missed 49 = .ok (.iastore, 1) := by decide +kernel
theorem dX12_missed_50 : decode cX12_missed 50 = .ok (.iinc 2 1, 3) := by decide +kernel
theorem dX12_missed_53 : decode cX12_missed 53 = .ok (.goto (-40), 3) := by decide +kernel
theorem dX12_missed_56 : decode cX12_missed 56 = .ok (.bipush (-4), 2) := by decide +kernel
theorem dX12_missed_58 : decode cX12_missed 58 = .ok (.istore_n 2, 1) := by decide +kernel
theorem dX12_missed_59 : decode cX12_missed 59 = .ok (.bipush (-4), 2) := by decide +kernel
theorem dX12_missed_61 : decode cX12_missed 61 = .ok (.istore_n 3, 1) := by decide +kernel
theorem dX12_missed_62 : decode cX12_missed 62 = .ok (.iconst 0, 1) := by decide +kernel
theorem dX12_missed_63 : decode cX12_missed 63 = .ok (.istore 4, 2) := by decide +kernel
theorem dX12_missed_65 : decode cX12_missed 65 = .ok (.iload 4, 2) := by decide +kernel
theorem dX12_missed_67 : decode cX12_missed 67 = .ok (.aload_n 0, 1) := by decide +kernel
theorem dX12_missed_68 : decode cX12_missed 68 = .ok (.getfield 17, 3) := by decide +kernel
theorem dX12_missed_71 : decode cX12_missed 71 = .ok (.iconst 0, 1) := by decide +kernel
theorem dX12_missed_72 : decode cX12_missed 72 = .ok (.iaload, 1) := by decide +kernel
theorem dX12_missed_73 : decode cX12_missed 73 = .ok (.if_icmp .ge 35, 3) := by decide +kernel
theorem dX12_missed_76 : decode cX12_missed 76 = .ok (.aload_n 0, 1) := by decide +kernel
theorem dX12_missed_77 : decode cX12_missed 77 = .ok (.iload 4, 2) := by decide +kernel
theorem dX12_missed_79 : decode cX12_missed 79 = .ok (.invokevirtual 216, 3) := by decide +kernel
theorem dX12_missed_82 : decode cX12_missed 82 = .ok (.istore 5, 2) := by decide +kernel
theorem dX12_missed_84 : decode cX12_missed 84 = .ok (.iload_n 2, 1) := by decide +kernel
theorem dX12_missed_85 : decode cX12_missed 85 = .ok (.bipush (-4), 2) := by decide +kernel
theorem dX12_missed_87 : decode cX12_missed 87 = .ok (.if_icmp .eq 9, 3) := by decide +kernel
theorem dX12_missed_90 : decode cX12_missed 90 = .ok (.iload 5, 2) := by decide +kernel
theorem dX12_missed_92 : decode cX12_missed 92 = .ok (.iload_n 3, 1) := by decide +kernel
theorem dX12_missed_93 : decode cX12_missed 93 = .ok (.if_icmp .le 9, 3) := by decide +kernel
theorem dX12_missed_96 : decode cX12_missed 96 = .ok (.iload 4, 2) := by decide +kernel
theorem dX12_missed_98 : decode cX12_missed 98 = .ok (.istore_n 2, 1) := by decide +kernel
theorem dX12_missed_99 : decode cX12_missed 99 = .ok (.iload 5, 2) := by decide +kernel
theorem dX12_missed_101 : decode cX12_missed 101 = .ok (.istore_n 3, 1) := by decide +kernel
theorem dX12_missed_102 : decode cX12_missed 102 = .ok (.iinc 4 1, 3) := by decide +kernel
theorem dX12_missed_105 : decode cX12_missed 105 = .ok (.goto (-40), 3) := by decide +kernel
theorem dX12_missed_108 : decode cX12_missed 108 = .ok (.aload_n 0, 1) := by decide +kernel
theorem dX12_missed_109 : decode cX12_missed 109 = .ok (.bipush (-4), 2) := by decide +kernel
theorem dX12_missed_111 : decode cX12_missed 111 = .ok (.invokevirtual 138, 3) := by decide +kernel
theorem dX12_missed_114 : decode cX12_missed 114 = .ok (.iload_n 1, 1) := by decide +kernel
theorem dX12_missed_115 : decode cX12_missed 115 = .ok (.ifCond .ne 7, 3) := by decide +kernel
theorem dX12_missed_118 : decode cX12_missed 118 = .ok (.iload_n 2, 1) := by decide +kernel
theorem dX12_missed_119 : decode cX12_missed 119 = .ok (.goto 4, 3) := by decide +kernel
theorem dX12_missed_122 : decode cX12_missed 122 = .ok (.iload_n 3, 1) := by decide +kernel
theorem dX12_missed_123 : decode cX12_missed 123 = .ok (.ireturn, 1) := by decide +kernel
theorem dX12_seen_0 : decode cX12_seen 0 = .ok (.aload_n 0, 1) := by decide +kernel
theorem dX12_seen_1 : decode cX12_seen 1 = .ok (.iload_n 1, 1) := by decide +kernel
theorem dX12_seen_2 : decode cX12_seen 2 = .ok (.invokevirtual 152, 3) := by decide +kernel
theorem dX12_seen_5 : decode cX12_seen 5 = .ok (.ifCond .eq 21, 3) := by decide +kernel
theorem dX12_seen_8 : decode cX12_seen 8 = .ok (.aload_n 0, 1) := by decide +kernel
theorem dX12_seen_9 : decode cX12_seen 9 = .ok (.iload_n 2, 1) := by decide +kernel
theorem dX12_seen_10 : decode cX12_seen 10 = .ok (.invokevirtual 145, 3) := by decide +kernel
theorem dX12_seen_13 : decode cX12_seen 13 = .ok (.ifCond .eq 13, 3) := by decide +kernel
theorem dX12_seen_16 : decode cX12_seen 16 = .ok (.iload_n 3, 1) := by decide +kernel
theorem dX12_seen_17 : decode cX12_seen 17 = .ok (.iconst 0, 1) := by decide +kernel
theorem dX12_seen_18 : decode cX12_seen 18 = .ok (.bipush 30, 2) := by decide +kernel
theorem dX12_seen_20 : decode cX12_seen 20 = .ok (.invokestatic 94, 3) := by decide +kernel
theorem dX12_seen_23 : decode cX12_seen 23 = .ok (.ifCond .ne 5, 3) := by decide +kernel
theorem dX12_seen_26 : decode cX12_seen 26 = .ok (.iconst (-1), 1) := by decide +kernel
theorem dX12_seen_27 : decode cX12_seen 27 = .ok (.ireturn, 1) := by decide +kernel
theorem dX12_seen_28 : decode cX12_seen 28 = .ok (.aload_n 0, 1) := by decide +kernel
theorem dX12_seen_29 : decode cX12_seen 29 = .ok (.getfield 135, 3) := by decide +kernel
theorem dX12_seen_32 : decode cX12_seen 32 = .ok (.bipush 8, 2) := by decide +kernel
theorem dX12_seen_34 : decode cX12_seen 34 = .ok (.if_icmp .ne 6, 3) := by decide +kernel
theorem dX12_seen_37 : decode cX12_seen 37 = .ok (.bipush (-3), 2) := by decide +kernel
theorem dX12_seen_39 : decode cX12_seen 39 = .ok (.ireturn, 1) := by decide +kernel
theorem dX12_seen_40 : decode cX12_seen 40 = .ok (.aload_n 0, 1) := by decide +kernel
theorem dX12_seen_41 : decode cX12_seen 41 = .ok (.getfield 65, 3) := by decide +kernel
theorem dX12_seen_44 : decode cX12_seen 44 = .ok (.aload_n 0, 1) := by decide +kernel
theorem dX12_seen_45 : decode cX12_seen 45 = .ok (.getfield 135, 3) := by decide +kernel
theorem dX12_seen_48 : decode cX12_seen 48 = .ok (.iload_n 1, 1) := by decide +kernel
theorem dX12_seen_49 : decode cX12_seen 49 = .ok (.iastore, 1) := by decide +kernel
theorem dX12_seen_50 : decode cX12_seen 50 = .ok (.aload_n 0, 1) := by decide +kernel
theorem dX12_seen_51 : decode cX12_seen 51 = .ok (.getfield 68, 3) := by decide +kernel
theorem dX12_seen_54 : decode cX12_seen 54 = .ok (.aload_n 0, 1) := by decide +kernel
theorem dX12_seen_55 : decode cX12_seen 55 = .ok (.getfield 135, 3) := by decide +kernel
theorem dX12_seen_58 : decode cX12_seen 58 = .ok (.iload_n 2, 1) := by decide +kernel
theorem dX12_seen_59 : decode cX12_seen 59 = .ok (.iastore, 1) := by decide +kernel
theorem dX12_seen_60 : decode cX12_seen 60 = .ok (.aload_n 0, 1) := by decide +kernel
theorem dX12_seen_61 : decode cX12_seen 61 = .ok (.getfield 71, 3) := by decide +kernel
theorem dX12_seen_64 : decode cX12_seen 64 = .ok (.aload_n 0, 1) := by decide +kernel
theorem dX12_seen_65 : decode cX12_seen 65 = .ok (.getfield 135, 3) := by decide +kernel
theorem dX12_seen_68 : decode cX12_seen 68 = .ok (.iload_n 3, 1) := by decide +kernel
theorem dX12_seen_69 : decode cX12_seen 69 = .ok (.iastore, 1) := by decide +kernel
theorem dX12_seen_70 : decode cX12_seen 70 = .ok (.aload_n 0, 1) := by decide +kernel
theorem dX12_seen_71 : decode cX12_seen 71 = .ok (.dup, 1) := by decide +kernel
theorem dX12_seen_72 : decode cX12_seen 72 = .ok (.getfield 135, 3) := by decide +kernel
theorem dX12_seen_75 : decode cX12_seen 75 = .ok (.iconst 1, 1) := by decide +kernel
theorem dX12_seen_76 : decode cX12_seen 76 = .ok (.iadd, 1) := by decide +kernel
theorem dX12_seen_77 : decode cX12_seen 77 = .ok (.putfield 135, 3) := by decide +kernel
theorem dX12_seen_80 : decode cX12_seen 80 = .ok (.aload_n 0, 1) := by decide +kernel
theorem dX12_seen_81 : decode cX12_seen 81 = .ok (.getfield 135, 3) := by decide +kernel
theorem dX12_seen_84 : decode cX12_seen 84 = .ok (.ireturn, 1) := by decide +kernel
theorem dX12_forget_0 : decode cX12_forget 0 = .ok (.aload_n 0, 1) := by decide +kernel
theorem dX12_forget_1 : decode cX12_forget 1 = .ok (.getfield 135, 3) := by decide +kernel
theorem dX12_forget_4 : decode cX12_forget 4 = .ok (.istore_n 1, 1) := by decide +kernel
theorem dX12_forget_5 : decode cX12_forget 5 = .ok (.aload_n 0, 1) := by decide +kernel
theorem dX12_forget_6 : decode cX12_forget 6 = .ok (.iconst 0, 1) := by decide +kernel
theorem dX12_forget_7 : decode cX12_forget 7 = .ok (.putfield 135, 3) := by decide +kernel
theorem dX12_forget_10 : decode cX12_forget 10 = .ok (.iload_n 1, 1) := by decide +kernel
theorem dX12_forget_11 : decode cX12_forget 11 = .ok (.ireturn, 1) := by decide +kernel
theorem dX12_kinds_0 : decode cX12_kinds 0 = .ok (.aload_n 0, 1) := by decide +kernel
theorem dX12_kinds_1 : decode cX12_kinds 1 = .ok (.iload_n 1, 1) := by decide +kernel
theorem dX12_kinds_2 : decode cX12_kinds 2 = .ok (.invokevirtual 152, 3) := by decide +kernel
theorem dX12_kinds_5 : decode cX12_kinds 5 = .ok (.ifCond .ne 5, 3) := by decide +kernel
theorem dX12_kinds_8 : decode cX12_kinds 8 = .ok (.iconst (-1), 1) := by decide +kernel
theorem dX12_kinds_9 : decode cX12_kinds 9 = .ok (.ireturn, 1) := by decide +kernel
theorem dX12_kinds_10 : decode cX12_kinds 10 = .ok (.iconst 0, 1) := by decide +kernel
theorem dX12_kinds_11 : decode cX12_kinds 11 = .ok (.istore_n 2, 1) := by decide +kernel
theorem dX12_kinds_12 : decode cX12_kinds 12 = .ok (.iconst 0, 1) := by decide +kernel
theorem dX12_kinds_13 : decode cX12_kinds 13 = .ok (.istore_n 3, 1) := by decide +kernel
theorem dX12_kinds_14 : decode cX12_kinds 14 = .ok (.iload_n 3, 1) := by decide +kernel
theorem dX12_kinds_15 : decode cX12_kinds 15 = .ok (.iconst 4, 1) := by decide +kernel
theorem dX12_kinds_16 : decode cX12_kinds 16 = .ok (.if_icmp .ge 114, 3) := by decide +kernel
theorem dX12_kinds_19 : decode cX12_kinds 19 = .ok (.aload_n 0, 1) := by decide +kernel
theorem dX12_kinds_20 : decode cX12_kinds 20 = .ok (.iconst 0, 1) := by decide +kernel
theorem dX12_kinds_21 : decode cX12_kinds 21 = .ok (.iload_n 3, 1) := by decide +kernel
theorem dX12_kinds_22 : decode cX12_kinds 22 = .ok (.aload_n 0, 1) := by decide +kernel
theorem dX12_kinds_23 : decode cX12_kinds 23 = .ok (.getfield 35, 3) := by decide +kernel
theorem dX12_kinds_26 : decode cX12_kinds 26 = .ok (.iload_n 1, 1) := by decide +kernel
theorem dX12_kinds_27 : decode cX12_kinds 27 = .ok (.iaload, 1) := by decide +kernel
theorem dX12_kinds_28 : decode cX12_kinds 28 = .ok (.aload_n 0, 1) := by decide +kernel
theorem dX12_kinds_29 : decode cX12_kinds 29 = .ok (.getfield 38, 3) := by decide +kernel
theorem dX12_kinds_32 : decode cX12_kinds 32 = .ok (.iload_n 1, 1) := by decide +kernel
theorem dX12_kinds_33 : decode cX12_kinds 33 = .ok (.iaload, 1) := by decide +kernel
theorem dX12_kinds_34 : decode cX12_kinds 34 = .ok (.aload_n 0, 1) := by decide +kernel
theorem dX12_kinds_35 : decode cX12_kinds 35 = .ok (.getfield 38, 3) := by decide +kernel
theorem dX12_kinds_38 : decode cX12_kinds 38 = .ok (.iload_n 1, 1) := by decide +kernel
theorem dX12_kinds_39 : decode cX12_kinds 39 = .ok (.iaload, 1) := by decide +kernel
theorem dX12_kinds_40 : decode cX12_kinds 40 = .ok (.invokevirtual 189, 3) := by decide +kernel
theorem dX12_kinds_43 : decode cX12_kinds 43 = .ok (.iconst 1, 1) := by decide +kernel
theorem dX12_kinds_44 : decode cX12_kinds 44 = .ok (.istore 4, 2) := by decide +kernel
theorem dX12_kinds_46 : decode cX12_kinds 46 = .ok (.iconst 0, 1) := by decide +kernel
theorem dX12_kinds_47 : decode cX12_kinds 47 = .ok (.istore 5, 2) := by decide +kernel
theorem dX12_kinds_49 : decode cX12_kinds 49 = .ok (.iload 5, 2) := by decide +kernel
theorem dX12_kinds_51 : decode cX12_kinds 51 = .ok (.aload_n 0, 1) := by decide +kernel
theorem dX12_kinds_52 : decode cX12_kinds 52 = .ok (.getfield 135, 3) := by decide +kernel
theorem dX12_kinds_55 : decode cX12_kinds 55 = .ok (.if_icmp .ge 54, 3) := by decide +kernel
theorem dX12_kinds_58 : decode cX12_kinds 58 = .ok (.iload 4, 2) := by decide +kernel
theorem dX12_kinds_60 : decode cX12_kinds 60 = .ok (.ifCond .eq 40, 3) := by decide +kernel
theorem dX12_kinds_63 : decode cX12_kinds 63 = .ok (.aload_n 0, 1) := by decide +kernel
theorem dX12_kinds_64 : decode cX12_kinds 64 = .ok (.getfield 65, 3) := by decide +kernel
theorem dX12_kinds_67 : decode cX12_kinds 67 = .ok (.iload 5, 2) := by decide +kernel
theorem dX12_kinds_69 : decode cX12_kinds 69 = .ok (.iaload, 1) := by decide +kernel
theorem dX12_kinds_70 : decode cX12_kinds 70 = .ok (.iload_n 1, 1) := by decide +kernel
theorem dX12_kinds_71 : decode cX12_kinds 71 = .ok (.if_icmp .ne 25, 3) := by decide +kernel
theorem dX12_kinds_74 : decode cX12_kinds 74 = .ok (.aload_n 0, 1) := by decide +kernel
theorem dX12_kinds_75 : decode cX12_kinds 75 = .ok (.getfield 56, 3) := by decide +kernel
theorem dX12_kinds_78 : decode cX12_kinds 78 = .ok (.aload_n 0, 1) := by decide +kernel
theorem dX12_kinds_79 : decode cX12_kinds 79 = .ok (.getfield 71, 3) := by decide +kernel
theorem dX12_kinds_82 : decode cX12_kinds 82 = .ok (.iload 5, 2) := by decide +kernel
theorem dX12_kinds_84 : decode cX12_kinds 84 = .ok (.iaload, 1) := by decide +kernel
theorem dX12_kinds_85 : decode cX12_kinds 85 = .ok (.iaload, 1) := by decide +kernel
theorem dX12_kinds_86 : decode cX12_kinds 86 = .ok (.aload_n 0, 1) := by decide +kernel
theorem dX12_kinds_87 : decode cX12_kinds 87 = .ok (.getfield 68, 3) := by decide +kernel
theorem dX12_kinds_90 : decode cX12_kinds 90 = .ok (.iload 5, 2) := by decide +kernel
theorem dX12_kinds_92 : decode cX12_kinds 92 = .ok (.iaload, 1) := by decide +kernel
theorem dX12_kinds_93 : decode cX12_kinds 93 = .ok (.if_icmp .ne 7, 3) := by decide +kernel
theorem dX12_kinds_96 : decode cX12_kinds 96 = .ok (.iconst 1, 1) := by decide +kernel
theorem dX12_kinds_97 : decode cX12_kinds 97 = .ok (.goto 4, 3) := by decide +kernel
theorem dX12_kinds_100 : decode cX12_kinds 100 = .ok (.iconst 0, 1) := by decide +kernel
theorem dX12_kinds_101 : decode cX12_kinds 101 = .ok (.istore 4, 2) := by decide +kernel
theorem dX12_kinds_103 : decode cX12_kinds 103 = .ok (.iinc 5 1, 3) := by decide +kernel
theorem dX12_kinds_106 : decode cX12_kinds 106 = .ok (.goto (-57), 3) := by decide +kernel
theorem dX12_kinds_109 : decode cX12_kinds 109 = .ok (.iload_n 2, 1) := by decide +kernel
theorem dX12_kinds_110 : decode cX12_kinds 110 = .ok (.iload 4, 2) := by decide +kernel
theorem dX12_kinds_112 : decode cX12_kinds 112 = .ok (.ifCond .eq 9, 3) := by decide +kernel
theorem dX12_kinds_115 : decode cX12_kinds 115 = .ok (.iconst 1, 1) := by decide +kernel
theorem dX12_kinds_116 : decode cX12_kinds 116 = .ok (.iload_n 3, 1) := by decide +kernel
theorem dX12_kinds_117 : decode cX12_kinds 117 = .ok (.ishl, 1) := by decide +kernel
theorem dX12_kinds_118 : decode cX12_kinds 118 = .ok (.goto 4, 3) := by decide +kernel
theorem dX12_kinds_121 : decode cX12_kinds 121 = .ok (.iconst 0, 1) := by decide +kernel
theorem dX12_kinds_122 : decode cX12_kinds 122 = .ok (.ior, 1) := by decide +kernel
theorem dX12_kinds_123 : decode cX12_kinds 123 = .ok (.istore_n 2, 1) := by decide +kernel
theorem dX12_kinds_124 : decode cX12_kinds 124 = .ok (.iinc 3 1, 3) := by decide +kernel
theorem dX12_kinds_127 : decode cX12_kinds 127 = .ok (.goto (-113), 3) := by decide +kernel
theorem dX12_kinds_130 : decode cX12_kinds 130 = .ok (.iload_n 2, 1) := by decide +kernel
theorem dX12_kinds_131 : decode cX12_kinds 131 = .ok (.ireturn, 1) := by decide +kernel
theorem dX12_paid_0 : decode cX12_paid 0 = .ok (.iload_n 1, 1) := by decide +kernel
theorem dX12_paid_1 : decode cX12_paid 1 = .ok (.iconst 0, 1) := by decide +kernel
theorem dX12_paid_2 : decode cX12_paid 2 = .ok (.sipush 999, 3) := by decide +kernel
theorem dX12_paid_5 : decode cX12_paid 5 = .ok (.invokestatic 94, 3) := by decide +kernel
theorem dX12_paid_8 : decode cX12_paid 8 = .ok (.ifCond .eq 12, 3) := by decide +kernel
theorem dX12_paid_11 : decode cX12_paid 11 = .ok (.iload_n 2, 1) := by decide +kernel
theorem dX12_paid_12 : decode cX12_paid 12 = .ok (.iconst 0, 1) := by decide +kernel
theorem dX12_paid_13 : decode cX12_paid 13 = .ok (.iconst 1, 1) := by decide +kernel
theorem dX12_paid_14 : decode cX12_paid 14 = .ok (.invokestatic 94, 3) := by decide +kernel
theorem dX12_paid_17 : decode cX12_paid 17 = .ok (.ifCond .ne 5, 3) := by decide +kernel
theorem dX12_paid_20 : decode cX12_paid 20 = .ok (.iconst (-1), 1) := by decide +kernel
theorem dX12_paid_21 : decode cX12_paid 21 = .ok (.ireturn, 1) := by decide +kernel
theorem dX12_paid_22 : decode cX12_paid 22 = .ok (.iconst 0, 1) := by decide +kernel
theorem dX12_paid_23 : decode cX12_paid 23 = .ok (.istore_n 3, 1) := by decide +kernel
theorem dX12_paid_24 : decode cX12_paid 24 = .ok (.bipush (-4), 2) := by decide +kernel
theorem dX12_paid_26 : decode cX12_paid 26 = .ok (.istore 4, 2) := by decide +kernel
theorem dX12_paid_28 : decode cX12_paid 28 = .ok (.iconst 0, 1) := by decide +kernel
theorem dX12_paid_29 : decode cX12_paid 29 = .ok (.istore 5, 2) := by decide +kernel
theorem dX12_paid_31 : decode cX12_paid 31 = .ok (.iload 5, 2) := by decide +kernel
theorem dX12_paid_33 : decode cX12_paid 33 = .ok (.iconst 1, 1) := by decide +kernel
theorem dX12_paid_34 : decode cX12_paid 34 = .ok (.aload_n 0, 1) := by decide +kernel
theorem dX12_paid_35 : decode cX12_paid 35 = .ok (.getfield 29, 3) := by decide +kernel
theorem dX12_paid_38 : decode cX12_paid 38 = .ok (.iconst 0, 1) := by decide +kernel
theorem dX12_paid_39 : decode cX12_paid 39 = .ok (.iaload, 1) := by decide +kernel
theorem dX12_paid_40 : decode cX12_paid 40 = .ok (.ishl, 1) := by decide +kernel
theorem dX12_paid_41 : decode cX12_paid 41 = .ok (.if_icmp .ge 78, 3) := by decide +kernel
theorem dX12_paid_44 : decode cX12_paid 44 = .ok (.iconst 0, 1) := by decide +kernel
theorem dX12_paid_45 : decode cX12_paid 45 = .ok (.istore 6, 2) := by decide +kernel
theorem dX12_paid_47 : decode cX12_paid 47 = .ok (.iconst 0, 1) := by decide +kernel
theorem dX12_paid_48 : decode cX12_paid 48 = .ok (.istore 7, 2) := by decide +kernel
theorem dX12_paid_50 : decode cX12_paid 50 = .ok (.iload 7, 2) := by decide +kernel
theorem dX12_paid_52 : decode cX12_paid 52 = .ok (.aload_n 0, 1) := by decide +kernel
theorem dX12_paid_53 : decode cX12_paid 53 = .ok (.getfield 29, 3) := by decide +kernel
theorem dX12_paid_56 : decode cX12_paid 56 = .ok (.iconst 0, 1) := by decide +kernel
theorem dX12_paid_57 : decode cX12_paid 57 = .ok (.iaload, 1) := by decide +kernel
theorem dX12_paid_58 : decode cX12_paid 58 = .ok (.if_icmp .ge 33, 3) := by decide +kernel
theorem dX12_paid_61 : decode cX12_paid 61 = .ok (.aload_n 0, 1) := by decide +kernel
theorem dX12_paid_62 : decode cX12_paid 62 = .ok (.iconst 0, 1) := by decide +kernel
theorem dX12_paid_63 : decode cX12_paid 63 = .ok (.iload 7, 2) := by decide +kernel
theorem dX12_paid_65 : decode cX12_paid 65 = .ok (.invokevirtual 193, 3) := by decide +kernel
theorem dX12_paid_68 : decode cX12_paid 68 = .ok (.iload 6, 2) := by decide +kernel
theorem dX12_paid_70 : decode cX12_paid 70 = .ok (.iload 5, 2) := by decide +kernel
theorem dX12_paid_72 : decode cX12_paid 72 = .ok (.iload 7, 2) := by decide +kernel
theorem dX12_paid_74 : decode cX12_paid 74 = .ok (.ishr, 1) := by decide +kernel
theorem dX12_paid_75 : decode cX12_paid 75 = .ok (.iconst 1, 1) := by decide +kernel
theorem dX12_paid_76 : decode cX12_paid 76 = .ok (.iand, 1) := by decide +kernel
theorem dX12_paid_77 : decode cX12_paid 77 = .ok (.aload_n 0, 1) := by decide +kernel
theorem dX12_paid_78 : decode cX12_paid 78 = .ok (.getfield 179, 3) := by decide +kernel
theorem dX12_paid_81 : decode cX12_paid 81 = .ok (.imul, 1) := by decide +kernel
theorem dX12_paid_82 : decode cX12_paid 82 = .ok (.iadd, 1) := by decide +kernel
theorem dX12_paid_83 : decode cX12_paid 83 = .ok (.istore 6, 2) := by decide +kernel
theorem dX12_paid_85 : decode cX12_paid 85 = .ok (.iinc 7 1, 3) := by decide +kernel
theorem dX12_paid_88 : decode cX12_paid 88 = .ok (.goto (-38), 3) := by decide +kernel
theorem dX12_paid_91 : decode cX12_paid 91 = .ok (.iload 6, 2) := by decide +kernel
theorem dX12_paid_93 : decode cX12_paid 93 = .ok (.iload_n 1, 1) := by decide +kernel
theorem dX12_paid_94 : decode cX12_paid 94 = .ok (.if_icmp .ne 19, 3) := by decide +kernel
theorem dX12_paid_97 : decode cX12_paid 97 = .ok (.iload_n 3, 1) := by decide +kernel
theorem dX12_paid_98 : decode cX12_paid 98 = .ok (.ifCond .ne 8, 3) := by decide +kernel
theorem dX12_paid_101 : decode cX12_paid 101 = .ok (.iload 5, 2) := by decide +kernel
theorem dX12_paid_103 : decode cX12_paid 103 = .ok (.goto 5, 3) := by decide +kernel
theorem dX12_paid_106 : decode cX12_paid 106 = .ok (.iload 4, 2) := by decide +kernel
theorem dX12_paid_108 : decode cX12_paid 108 = .ok (.istore 4, 2) := by decide +kernel
theorem dX12_paid_110 : decode cX12_paid 110 = .ok (.iinc 3 1, 3) := by decide +kernel
theorem dX12_paid_113 : decode cX12_paid 113 = .ok (.iinc 5 1, 3) := by decide +kernel
theorem dX12_paid_116 : decode cX12_paid 116 = .ok (.goto (-85), 3) := by decide +kernel
theorem dX12_paid_119 : decode cX12_paid 119 = .ok (.iload_n 2, 1) := by decide +kernel
theorem dX12_paid_120 : decode cX12_paid 120 = .ok (.ifCond .ne 7, 3) := by decide +kernel
theorem dX12_paid_123 : decode cX12_paid 123 = .ok (.iload_n 3, 1) := by decide +kernel
theorem dX12_paid_124 : decode cX12_paid 124 = .ok (.goto 5, 3) := by decide +kernel
theorem dX12_paid_127 : decode cX12_paid 127 = .ok (.iload 4, 2) := by decide +kernel
theorem dX12_paid_129 : decode cX12_paid 129 = .ok (.ireturn, 1) := by decide +kernel
theorem dX12_turned_0 : decode cX12_turned 0 = .ok (.iconst 0, 1) := by decide +kernel
theorem dX12_turned_1 : decode cX12_turned 1 = .ok (.istore_n 3, 1) := by decide +kernel
theorem dX12_turned_2 : decode cX12_turned 2 = .ok (.iload_n 3, 1) := by decide +kernel
theorem dX12_turned_3 : decode cX12_turned 3 = .ok (.aload_n 0, 1) := by decide +kernel
theorem dX12_turned_4 : decode cX12_turned 4 = .ok (.getfield 13, 3) := by decide +kernel
theorem dX12_turned_7 : decode cX12_turned 7 = .ok (.iconst 0, 1) := by decide +kernel
theorem dX12_turned_8 : decode cX12_turned 8 = .ok (.iaload, 1) := by decide +kernel
theorem dX12_turned_9 : decode cX12_turned 9 = .ok (.if_icmp .ge 33, 3) := by decide +kernel
theorem dX12_turned_12 : decode cX12_turned 12 = .ok (.iload_n 3, 1) := by decide +kernel
theorem dX12_turned_13 : decode cX12_turned 13 = .ok (.iload_n 2, 1) := by decide +kernel
theorem dX12_turned_14 : decode cX12_turned 14 = .ok (.if_icmp .eq 22, 3) := by decide +kernel
theorem dX12_turned_17 : decode cX12_turned 17 = .ok (.aload_n 0, 1) := by decide +kernel
theorem dX12_turned_18 : decode cX12_turned 18 = .ok (.getfield 50, 3) := by decide +kernel
theorem dX12_turned_21 : decode cX12_turned 21 = .ok (.bipush 8, 2) := by decide +kernel
theorem dX12_turned_23 : decode cX12_turned 23 = .ok (.iload_n 1, 1) := by decide +kernel
theorem dX12_turned_24 : decode cX12_turned 24 = .ok (.imul, 1) := by decide +kernel
theorem dX12_turned_25 : decode cX12_turned 25 = .ok (.iload_n 3, 1) := by decide +kernel
theorem dX12_turned_26 : decode cX12_turned 26 = .ok (.iadd, 1) := by decide +kernel
theorem dX12_turned_27 : decode cX12_turned 27 = .ok (.iaload, 1) := by decide +kernel
theorem dX12_turned_28 : decode cX12_turned 28 = .ok (.sipush 10000, 3) := by decide +kernel
theorem dX12_turned_31 : decode cX12_turned 31 = .ok (.if_icmp .ge 5, 3) := by decide +kernel
theorem dX12_turned_34 : decode cX12_turned 34 = .ok (.iload_n 3, 1) := by decide +kernel
theorem dX12_turned_35 : decode cX12_turned 35 = .ok (.ireturn, 1) := by decide +kernel
theorem dX12_turned_36 : decode cX12_turned 36 = .ok (.iinc 3 1, 3) := by decide +kernel
theorem dX12_turned_39 : decode cX12_turned 39 = .ok (.goto (-37), 3) := by decide +kernel
theorem dX12_turned_42 : decode cX12_turned 42 = .ok (.iload_n 2, 1) := by decide +kernel
theorem dX12_turned_43 : decode cX12_turned 43 = .ok (.ireturn, 1) := by decide +kernel
theorem dX12_mean_0 : decode cX12_mean 0 = .ok (.iload_n 1, 1) := by decide +kernel
theorem dX12_mean_1 : decode cX12_mean 1 = .ok (.iconst 0, 1) := by decide +kernel
theorem dX12_mean_2 : decode cX12_mean 2 = .ok (.iconst 5, 1) := by decide +kernel
theorem dX12_mean_3 : decode cX12_mean 3 = .ok (.invokestatic 94, 3) := by decide +kernel
theorem dX12_mean_6 : decode cX12_mean 6 = .ok (.ifCond .eq 22, 3) := by decide +kernel
theorem dX12_mean_9 : decode cX12_mean 9 = .ok (.iload_n 2, 1) := by decide +kernel
theorem dX12_mean_10 : decode cX12_mean 10 = .ok (.iconst 0, 1) := by decide +kernel
theorem dX12_mean_11 : decode cX12_mean 11 = .ok (.bipush 10, 2) := by decide +kernel
theorem dX12_mean_13 : decode cX12_mean 13 = .ok (.invokestatic 94, 3) := by decide +kernel
theorem dX12_mean_16 : decode cX12_mean 16 = .ok (.ifCond .eq 12, 3) := by decide +kernel
theorem dX12_mean_19 : decode cX12_mean 19 = .ok (.iload_n 3, 1) := by decide +kernel
theorem dX12_mean_20 : decode cX12_mean 20 = .ok (.iconst 0, 1) := by decide +kernel
theorem dX12_mean_21 : decode cX12_mean 21 = .ok (.iconst 1, 1) := by decide +kernel
theorem dX12_mean_22 : decode cX12_mean 22 = .ok (.invokestatic 94, 3) := by decide +kernel
theorem dX12_mean_25 : decode cX12_mean 25 = .ok (.ifCond .ne 5, 3) := by decide +kernel
theorem dX12_mean_28 : decode cX12_mean 28 = .ok (.iconst (-1), 1) := by decide +kernel
theorem dX12_mean_29 : decode cX12_mean 29 = .ok (.ireturn, 1) := by decide +kernel
theorem dX12_mean_30 : decode cX12_mean 30 = .ok (.iload_n 1, 1) := by decide +kernel
theorem dX12_mean_31 : decode cX12_mean 31 = .ok (.aload_n 0, 1) := by decide +kernel
theorem dX12_mean_32 : decode cX12_mean 32 = .ok (.getfield 47, 3) := by decide +kernel
theorem dX12_mean_35 : decode cX12_mean 35 = .ok (.iconst 0, 1) := by decide +kernel
theorem dX12_mean_36 : decode cX12_mean 36 = .ok (.iaload, 1) := by decide +kernel
theorem dX12_mean_37 : decode cX12_mean 37 = .ok (.if_icmp .ge 7, 3) := by decide +kernel
theorem dX12_mean_40 : decode cX12_mean 40 = .ok (.iload_n 1, 1) := by decide +kernel
theorem dX12_mean_41 : decode cX12_mean 41 = .ok (.goto 9, 3) := by decide +kernel
theorem dX12_mean_44 : decode cX12_mean 44 = .ok (.aload_n 0, 1) := by decide +kernel
theorem dX12_mean_45 : decode cX12_mean 45 = .ok (.getfield 47, 3) := by decide +kernel
theorem dX12_mean_48 : decode cX12_mean 48 = .ok (.iconst 0, 1) := by decide +kernel
theorem dX12_mean_49 : decode cX12_mean 49 = .ok (.iaload, 1) := by decide +kernel
theorem dX12_mean_50 : decode cX12_mean 50 = .ok (.istore 4, 2) := by decide +kernel
theorem dX12_mean_52 : decode cX12_mean 52 = .ok (.iconst 0, 1) := by decide +kernel
theorem dX12_mean_53 : decode cX12_mean 53 = .ok (.istore 5, 2) := by decide +kernel
theorem dX12_mean_55 : decode cX12_mean 55 = .ok (.iconst 1, 1) := by decide +kernel
theorem dX12_mean_56 : decode cX12_mean 56 = .ok (.istore 6, 2) := by decide +kernel
theorem dX12_mean_58 : decode cX12_mean 58 = .ok (.iconst 0, 1) := by decide +kernel
theorem dX12_mean_59 : decode cX12_mean 59 = .ok (.istore 7, 2) := by decide +kernel
theorem dX12_mean_61 : decode cX12_mean 61 = .ok (.iload 7, 2) := by decide +kernel
theorem dX12_mean_63 : decode cX12_mean 63 = .ok (.iload 4, 2) := by decide +kernel
theorem dX12_mean_65 : decode cX12_mean 65 = .ok (.if_icmp .ge 16, 3) := by decide +kernel
theorem dX12_mean_68 : decode cX12_mean 68 = .ok (.iload 6, 2) := by decide +kernel
theorem dX12_mean_70 : decode cX12_mean 70 = .ok (.bipush 10, 2) := by decide +kernel
theorem dX12_mean_72 : decode cX12_mean 72 = .ok (.imul, 1) := by decide +kernel
theorem dX12_mean_73 : decode cX12_mean 73 = .ok (.istore 6, 2) := by decide +kernel
theorem dX12_mean_75 : decode cX12_mean 75 = .ok (.iinc 7 1, 3) := by decide +kernel
theorem dX12_mean_78 : decode cX12_mean 78 = .ok (.goto (-17), 3) := by decide +kernel
theorem dX12_mean_81 : decode cX12_mean 81 = .ok (.iconst 0, 1) := by decide +kernel
theorem dX12_mean_82 : decode cX12_mean 82 = .ok (.istore 7, 2) := by decide +kernel
theorem dX12_mean_84 : decode cX12_mean 84 = .ok (.iload 7, 2) := by decide +kernel
theorem dX12_mean_86 : decode cX12_mean 86 = .ok (.iconst 1, 1) := by decide +kernel
theorem dX12_mean_87 : decode cX12_mean 87 = .ok (.iload 4, 2) := by decide +kernel
theorem dX12_mean_89 : decode cX12_mean 89 = .ok (.ishl, 1) := by decide +kernel
theorem dX12_mean_90 : decode cX12_mean 90 = .ok (.if_icmp .ge 152, 3) := by decide +kernel
theorem dX12_mean_93 : decode cX12_mean 93 = .ok (.aload_n 0, 1) := by decide +kernel
theorem dX12_mean_94 : decode cX12_mean 94 = .ok (.iconst 0, 1) := by decide +kernel
theorem dX12_mean_95 : decode cX12_mean 95 = .ok (.sipush 352, 3) := by decide +kernel
theorem dX12_mean_98 : decode cX12_mean 98 = .ok (.invokevirtual 203, 3) := by decide +kernel
theorem dX12_mean_101 : decode cX12_mean 101 = .ok (.iconst 1, 1) := by decide +kernel
theorem dX12_mean_102 : decode cX12_mean 102 = .ok (.istore 8, 2) := by decide +kernel
theorem dX12_mean_104 : decode cX12_mean 104 = .ok (.iconst 0, 1) := by decide +kernel
theorem dX12_mean_105 : decode cX12_mean 105 = .ok (.istore 9, 2) := by decide +kernel
theorem dX12_mean_107 : decode cX12_mean 107 = .ok (.iload 9, 2) := by decide +kernel
theorem dX12_mean_109 : decode cX12_mean 109 = .ok (.iload 4, 2) := by decide +kernel
theorem dX12_mean_111 : decode cX12_mean 111 = .ok (.if_icmp .ge 101, 3) := by decide +kernel
theorem dX12_mean_114 : decode cX12_mean 114 = .ok (.sipush 353, 3) := by decide +kernel
theorem dX12_mean_117 : decode cX12_mean 117 = .ok (.iconst 3, 1) := by decide +kernel
theorem dX12_mean_118 : decode cX12_mean 118 = .ok (.iload 9, 2) := by decide +kernel
theorem dX12_mean_120 : decode cX12_mean 120 = .ok (.imul, 1) := by decide +kernel
theorem dX12_mean_121 : decode cX12_mean 121 = .ok (.iadd, 1) := by decide +kernel
theorem dX12_mean_122 : decode cX12_mean 122 = .ok (.istore 10, 2) := by decide +kernel
theorem dX12_mean_124 : decode cX12_mean 124 = .ok (.iload 7, 2) := by decide +kernel
theorem dX12_mean_126 : decode cX12_mean 126 = .ok (.iload 9, 2) := by decide +kernel
theorem dX12_mean_128 : decode cX12_mean 128 = .ok (.ishr, 1) := by decide +kernel
theorem dX12_mean_129 : decode cX12_mean 129 = .ok (.iconst 1, 1) := by decide +kernel
theorem dX12_mean_130 : decode cX12_mean 130 = .ok (.iand, 1) := by decide +kernel
theorem dX12_mean_131 : decode cX12_mean 131 = .ok (.iconst 1, 1) := by decide +kernel
theorem dX12_mean_132 : decode cX12_mean 132 = .ok (.if_icmp .ne 7, 3) := by decide +kernel
theorem dX12_mean_135 : decode cX12_mean 135 = .ok (.iconst 1, 1) := by decide +kernel
theorem dX12_mean_136 : decode cX12_mean 136 = .ok (.goto 4, 3) := by decide +kernel
theorem dX12_mean_139 : decode cX12_mean 139 = .ok (.iconst 0, 1) := by decide +kernel
theorem dX12_mean_140 : decode cX12_mean 140 = .ok (.istore 11, 2) := by decide +kernel
theorem dX12_mean_142 : decode cX12_mean 142 = .ok (.iload 8, 2) := by decide +kernel
theorem dX12_mean_144 : decode cX12_mean 144 = .ok (.iload 11, 2) := by decide +kernel
theorem dX12_mean_146 : decode cX12_mean 146 = .ok (.ifCond .eq 7, 3) := by decide +kernel
theorem dX12_mean_149 : decode cX12_mean 149 = .ok (.iload_n 2, 1) := by decide +kernel
theorem dX12_mean_150 : decode cX12_mean 150 = .ok (.goto 7, 3) := by decide +kernel
theorem dX12_mean_153 : decode cX12_mean 153 = .ok (.bipush 10, 2) := by decide +kernel
theorem dX12_mean_155 : decode cX12_mean 155 = .ok (.iload_n 2, 1) := by decide +kernel
theorem dX12_mean_156 : decode cX12_mean 156 = .ok (.isub, 1) := by decide +kernel
theorem dX12_mean_157 : decode cX12_mean 157 = .ok (.imul, 1) := by decide +kernel
theorem dX12_mean_158 : decode cX12_mean 158 = .ok (.istore 8, 2) := by decide +kernel
theorem dX12_mean_160 : decode cX12_mean 160 = .ok (.aload_n 0, 1) := by decide +kernel
theorem dX12_mean_161 : decode cX12_mean 161 = .ok (.getfield 47, 3) := by decide +kernel
theorem dX12_mean_164 : decode cX12_mean 164 = .ok (.iload 10, 2) := by decide +kernel
theorem dX12_mean_166 : decode cX12_mean 166 = .ok (.iconst 2, 1) := by decide +kernel
theorem dX12_mean_167 : decode cX12_mean 167 = .ok (.iadd, 1) := by decide +kernel
theorem dX12_mean_168 : decode cX12_mean 168 = .ok (.iload 11, 2) := by decide +kernel
theorem dX12_mean_170 : decode cX12_mean 170 = .ok (.ifCond .eq 26, 3) := by decide +kernel
theorem dX12_mean_173 : decode cX12_mean 173 = .ok (.aload_n 0, 1) := by decide +kernel
theorem dX12_mean_174 : decode cX12_mean 174 = .ok (.aload_n 0, 1) := by decide +kernel
theorem dX12_mean_175 : decode cX12_mean 175 = .ok (.getfield 47, 3) := by decide +kernel
theorem dX12_mean_178 : decode cX12_mean 178 = .ok (.iload 10, 2) := by decide +kernel
theorem dX12_mean_180 : decode cX12_mean 180 = .ok (.iaload, 1) := by decide +kernel
theorem dX12_mean_181 : decode cX12_mean 181 = .ok (.aload_n 0, 1) := by decide +kernel
theorem dX12_mean_182 : decode cX12_mean 182 = .ok (.getfield 47, 3) := by decide +kernel
theorem dX12_mean_185 : decode cX12_mean 185 = .ok (.iload 10, 2) := by decide +kernel
theorem dX12_mean_187 : decode cX12_mean 187 = .ok (.iconst 2, 1) := by decide +kernel
theorem dX12_mean_188 : decode cX12_mean 188 = .ok (.iadd, 1) := by decide +kernel
theorem dX12_mean_189 : decode cX12_mean 189 = .ok (.iaload, 1) := by decide +kernel
theorem dX12_mean_190 : decode cX12_mean 190 = .ok (.invokevirtual 219, 3) := by decide +kernel
theorem dX12_mean_193 : decode cX12_mean 193 = .ok (.goto 12, 3) := by decide +kernel
theorem dX12_mean_196 : decode cX12_mean 196 = .ok (.aload_n 0, 1) := by decide +kernel
theorem dX12_mean_197 : decode cX12_mean 197 = .ok (.getfield 47, 3) := by decide +kernel
theorem dX12_mean_200 : decode cX12_mean 200 = .ok (.iload 10, 2) := by decide +kernel
theorem dX12_mean_202 : decode cX12_mean 202 = .ok (.iconst 2, 1) := by decide +kernel
theorem dX12_mean_203 : decode cX12_mean 203 = .ok (.iadd, 1) := by decide +kernel
theorem dX12_mean_204 : decode cX12_mean 204 = .ok (.iaload, 1) := by decide +kernel
theorem dX12_mean_205 : decode cX12_mean 205 = .ok (.iastore, 1) := by decide +kernel
theorem dX12_mean_206 : decode cX12_mean 206 = .ok (.iinc 9 1, 3) := by decide +kernel
theorem dX12_mean_209 : decode cX12_mean 209 = .ok (.goto (-102), 3) := by decide +kernel
theorem dX12_mean_212 : decode cX12_mean 212 = .ok (.iload 5, 2) := by decide +kernel
theorem dX12_mean_214 : decode cX12_mean 214 = .ok (.iload 8, 2) := by decide +kernel
theorem dX12_mean_216 : decode cX12_mean 216 = .ok (.ifCond .ne 7, 3) := by decide +kernel
theorem dX12_mean_219 : decode cX12_mean 219 = .ok (.iconst 0, 1) := by decide +kernel
theorem dX12_mean_220 : decode cX12_mean 220 = .ok (.goto 13, 3) := by decide +kernel
theorem dX12_mean_223 : decode cX12_mean 223 = .ok (.iload 8, 2) := by decide +kernel
theorem dX12_mean_225 : decode cX12_mean 225 = .ok (.aload_n 0, 1) := by decide +kernel
theorem dX12_mean_226 : decode cX12_mean 226 = .ok (.sipush 352, 3) := by decide +kernel
theorem dX12_mean_229 : decode cX12_mean 229 = .ok (.invokevirtual 200, 3) := by decide +kernel
theorem dX12_mean_232 : decode cX12_mean 232 = .ok (.imul, 1) := by decide +kernel
theorem dX12_mean_233 : decode cX12_mean 233 = .ok (.iadd, 1) := by decide +kernel
theorem dX12_mean_234 : decode cX12_mean 234 = .ok (.istore 5, 2) := by decide +kernel
theorem dX12_mean_236 : decode cX12_mean 236 = .ok (.iinc 7 1, 3) := by decide +kernel
theorem dX12_mean_239 : decode cX12_mean 239 = .ok (.goto (-155), 3) := by decide +kernel
theorem dX12_mean_242 : decode cX12_mean 242 = .ok (.iload 5, 2) := by decide +kernel
theorem dX12_mean_244 : decode cX12_mean 244 = .ok (.istore 7, 2) := by decide +kernel
theorem dX12_mean_246 : decode cX12_mean 246 = .ok (.iload 6, 2) := by decide +kernel
theorem dX12_mean_248 : decode cX12_mean 248 = .ok (.istore 8, 2) := by decide +kernel
theorem dX12_mean_250 : decode cX12_mean 250 = .ok (.iload 8, 2) := by decide +kernel
theorem dX12_mean_252 : decode cX12_mean 252 = .ok (.ifCond .eq 21, 3) := by decide +kernel
theorem dX12_mean_255 : decode cX12_mean 255 = .ok (.iload 7, 2) := by decide +kernel
theorem dX12_mean_257 : decode cX12_mean 257 = .ok (.iload 8, 2) := by decide +kernel
theorem dX12_mean_259 : decode cX12_mean 259 = .ok (.irem, 1) := by decide +kernel
theorem dX12_mean_260 : decode cX12_mean 260 = .ok (.istore 9, 2) := by decide +kernel
theorem dX12_mean_262 : decode cX12_mean 262 = .ok (.iload 8, 2) := by decide +kernel
theorem dX12_mean_264 : decode cX12_mean 264 = .ok (.istore 7, 2) := by decide +kernel
theorem dX12_mean_266 : decode cX12_mean 266 = .ok (.iload 9, 2) := by decide +kernel
theorem dX12_mean_268 : decode cX12_mean 268 = .ok (.istore 8, 2) := by decide +kernel
theorem dX12_mean_270 : decode cX12_mean 270 = .ok (.goto (-20), 3) := by decide +kernel
theorem dX12_mean_273 : decode cX12_mean 273 = .ok (.iload_n 3, 1) := by decide +kernel
theorem dX12_mean_274 : decode cX12_mean 274 = .ok (.ifCond .ne 11, 3) := by decide +kernel
theorem dX12_mean_277 : decode cX12_mean 277 = .ok (.iload 5, 2) := by decide +kernel
theorem dX12_mean_279 : decode cX12_mean 279 = .ok (.iload 7, 2) := by decide +kernel
theorem dX12_mean_281 : decode cX12_mean 281 = .ok (.idiv, 1) := by decide +kernel
theorem dX12_mean_282 : decode cX12_mean 282 = .ok (.goto 8, 3) := by decide +kernel
