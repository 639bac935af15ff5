theorem dX6_goRedeem_7 : decode cX6_goRedeem 7 = .ok (.aload_n 1, 1) := by decide +kernel
theorem dX6_goRedeem_8 : decode cX6_goRedeem 8 = .ok (.iconst 4, 1) := by decide +kernel
theorem dX6_goRedeem_9 : decode cX6_goRedeem 9 = .ok (.iload_n 2, 1) := by decide +kernel
theorem dX6_goRedeem_10 : decode cX6_goRedeem 10 = .ok (.iadd, 1) := by decide +kernel
theorem dX6_goRedeem_11 : decode cX6_goRedeem 11 = .ok (.iconst 0, 1) := by decide +kernel
theorem dX6_goRedeem_12 : decode cX6_goRedeem 12 = .ok (.iastore, 1) := by decide +kernel
theorem dX6_goRedeem_13 : decode cX6_goRedeem 13 = .ok (.aload_n 1, 1) := by decide +kernel
theorem dX6_goRedeem_14 : decode cX6_goRedeem 14 = .ok (.iconst 0, 1) := by decide +kernel
theorem dX6_goRedeem_15 : decode cX6_goRedeem 15 = .ok (.dup2, 1) := by decide +kernel
theorem dX6_goRedeem_16 : decode cX6_goRedeem 16 = .ok (.iaload, 1) := by decide +kernel
theorem dX6_goRedeem_17 : decode cX6_goRedeem 17 = .ok (.iload_n 3, 1) := by decide +kernel
theorem dX6_goRedeem_18 : decode cX6_goRedeem 18 = .ok (.iadd, 1) := by decide +kernel
theorem dX6_goRedeem_19 : decode cX6_goRedeem 19 = .ok (.iastore, 1) := by decide +kernel
theorem dX6_goRedeem_20 : decode cX6_goRedeem 20 = .ok (.aload_n 1, 1) := by decide +kernel
theorem dX6_goRedeem_21 : decode cX6_goRedeem 21 = .ok (.iconst 1, 1) := by decide +kernel
theorem dX6_goRedeem_22 : decode cX6_goRedeem 22 = .ok (.aload_n 0, 1) := by decide +kernel
theorem dX6_goRedeem_23 : decode cX6_goRedeem 23 = .ok (.getfield 13, 3) := by decide +kernel
theorem dX6_goRedeem_26 : decode cX6_goRedeem 26 = .ok (.iload_n 2, 1) := by decide +kernel
theorem dX6_goRedeem_27 : decode cX6_goRedeem 27 = .ok (.iaload, 1) := by decide +kernel
theorem dX6_goRedeem_28 : decode cX6_goRedeem 28 = .ok (.iadd, 1) := by decide +kernel
theorem dX6_goRedeem_29 : decode cX6_goRedeem 29 = .ok (.dup2, 1) := by decide +kernel
theorem dX6_goRedeem_30 : decode cX6_goRedeem 30 = .ok (.iaload, 1) := by decide +kernel
theorem dX6_goRedeem_31 : decode cX6_goRedeem 31 = .ok (.iload_n 3, 1) := by decide +kernel
theorem dX6_goRedeem_32 : decode cX6_goRedeem 32 = .ok (.isub, 1) := by decide +kernel
theorem dX6_goRedeem_33 : decode cX6_goRedeem 33 = .ok (.iastore, 1) := by decide +kernel
theorem dX6_goRedeem_34 : decode cX6_goRedeem 34 = .ok (.return_, 1) := by decide +kernel
theorem dX6_redeem_0 : decode cX6_redeem 0 = .ok (.aload_n 0, 1) := by decide +kernel
theorem dX6_redeem_1 : decode cX6_redeem 1 = .ok (.iconst 0, 1) := by decide +kernel
theorem dX6_redeem_2 : decode cX6_redeem 2 = .ok (.putfield 68, 3) := by decide +kernel
theorem dX6_redeem_5 : decode cX6_redeem 5 = .ok (.aload_n 0, 1) := by decide +kernel
theorem dX6_redeem_6 : decode cX6_redeem 6 = .ok (.iload_n 1, 1) := by decide +kernel
theorem dX6_redeem_7 : decode cX6_redeem 7 = .ok (.invokevirtual 158, 3) := by decide +kernel
theorem dX6_redeem_10 : decode cX6_redeem 10 = .ok (.ifCond .eq 5, 3) := by decide +kernel
theorem dX6_redeem_13 : decode cX6_redeem 13 = .ok (.iconst (-1), 1) := by decide +kernel
theorem dX6_redeem_14 : decode cX6_redeem 14 = .ok (.ireturn, 1) := by decide +kernel
theorem dX6_redeem_15 : decode cX6_redeem 15 = .ok (.aload_n 0, 1) := by decide +kernel
theorem dX6_redeem_16 : decode cX6_redeem 16 = .ok (.aload_n 0, 1) := by decide +kernel
theorem dX6_redeem_17 : decode cX6_redeem 17 = .ok (.getfield 40, 3) := by decide +kernel
theorem dX6_redeem_20 : decode cX6_redeem 20 = .ok (.iload_n 1, 1) := by decide +kernel
theorem dX6_redeem_21 : decode cX6_redeem 21 = .ok (.invokevirtual 178, 3) := by decide +kernel
theorem dX6_redeem_24 : decode cX6_redeem 24 = .ok (.ifCond .ne 6, 3) := by decide +kernel
theorem dX6_redeem_27 : decode cX6_redeem 27 = .ok (.bipush (-3), 2) := by decide +kernel
theorem dX6_redeem_29 : decode cX6_redeem 29 = .ok (.ireturn, 1) := by decide +kernel
theorem dX6_redeem_30 : decode cX6_redeem 30 = .ok (.aload_n 0, 1) := by decide +kernel
theorem dX6_redeem_31 : decode cX6_redeem 31 = .ok (.invokevirtual 167, 3) := by decide +kernel
theorem dX6_redeem_34 : decode cX6_redeem 34 = .ok (.aload_n 0, 1) := by decide +kernel
theorem dX6_redeem_35 : decode cX6_redeem 35 = .ok (.aload_n 0, 1) := by decide +kernel
theorem dX6_redeem_36 : decode cX6_redeem 36 = .ok (.getfield 40, 3) := by decide +kernel
theorem dX6_redeem_39 : decode cX6_redeem 39 = .ok (.iload_n 1, 1) := by decide +kernel
theorem dX6_redeem_40 : decode cX6_redeem 40 = .ok (.invokevirtual 181, 3) := by decide +kernel
theorem dX6_redeem_43 : decode cX6_redeem 43 = .ok (.aload_n 0, 1) := by decide +kernel
theorem dX6_redeem_44 : decode cX6_redeem 44 = .ok (.getfield 40, 3) := by decide +kernel
theorem dX6_redeem_47 : decode cX6_redeem 47 = .ok (.iconst 1, 1) := by decide +kernel
theorem dX6_redeem_48 : decode cX6_redeem 48 = .ok (.aload_n 0, 1) := by decide +kernel
theorem dX6_redeem_49 : decode cX6_redeem 49 = .ok (.getfield 13, 3) := by decide +kernel
theorem dX6_redeem_52 : decode cX6_redeem 52 = .ok (.iload_n 1, 1) := by decide +kernel
theorem dX6_redeem_53 : decode cX6_redeem 53 = .ok (.iaload, 1) := by decide +kernel
theorem dX6_redeem_54 : decode cX6_redeem 54 = .ok (.iadd, 1) := by decide +kernel
theorem dX6_redeem_55 : decode cX6_redeem 55 = .ok (.iaload, 1) := by decide +kernel
theorem dX6_redeem_56 : decode cX6_redeem 56 = .ok (.ireturn, 1) := by decide +kernel
theorem dX6_give_0 : decode cX6_give 0 = .ok (.aload_n 0, 1) := by decide +kernel
theorem dX6_give_1 : decode cX6_give 1 = .ok (.iconst 0, 1) := by decide +kernel
theorem dX6_give_2 : decode cX6_give 2 = .ok (.putfield 68, 3) := by decide +kernel
theorem dX6_give_5 : decode cX6_give 5 = .ok (.aload_n 0, 1) := by decide +kernel
theorem dX6_give_6 : decode cX6_give 6 = .ok (.iload_n 1, 1) := by decide +kernel
theorem dX6_give_7 : decode cX6_give 7 = .ok (.invokevirtual 147, 3) := by decide +kernel
theorem dX6_give_10 : decode cX6_give 10 = .ok (.ifCond .eq 5, 3) := by decide +kernel
theorem dX6_give_13 : decode cX6_give 13 = .ok (.iconst (-1), 1) := by decide +kernel
theorem dX6_give_14 : decode cX6_give 14 = .ok (.ireturn, 1) := by decide +kernel
theorem dX6_give_15 : decode cX6_give 15 = .ok (.iload_n 2, 1) := by decide +kernel
theorem dX6_give_16 : decode cX6_give 16 = .ok (.i2l, 1) := by decide +kernel
theorem dX6_give_17 : decode cX6_give 17 = .ok (.lconst 1, 1) := by decide +kernel
theorem dX6_give_18 : decode cX6_give 18 = .ok (.ldc2_w 184, 3) := by decide +kernel
theorem dX6_give_21 : decode cX6_give 21 = .ok (.invokestatic 75, 3) := by decide +kernel
theorem dX6_give_24 : decode cX6_give 24 = .ok (.ifCond .ne 6, 3) := by decide +kernel
theorem dX6_give_27 : decode cX6_give 27 = .ok (.bipush (-2), 2) := by decide +kernel
theorem dX6_give_29 : decode cX6_give 29 = .ok (.ireturn, 1) := by decide +kernel
theorem dX6_give_30 : decode cX6_give 30 = .ok (.aload_n 0, 1) := by decide +kernel
theorem dX6_give_31 : decode cX6_give 31 = .ok (.invokevirtual 167, 3) := by decide +kernel
theorem dX6_give_34 : decode cX6_give 34 = .ok (.aload_n 0, 1) := by decide +kernel
theorem dX6_give_35 : decode cX6_give 35 = .ok (.getfield 40, 3) := by decide +kernel
theorem dX6_give_38 : decode cX6_give 38 = .ok (.iconst 1, 1) := by decide +kernel
theorem dX6_give_39 : decode cX6_give 39 = .ok (.iload_n 1, 1) := by decide +kernel
theorem dX6_give_40 : decode cX6_give 40 = .ok (.iadd, 1) := by decide +kernel
theorem dX6_give_41 : decode cX6_give 41 = .ok (.dup2, 1) := by decide +kernel
theorem dX6_give_42 : decode cX6_give 42 = .ok (.iaload, 1) := by decide +kernel
theorem dX6_give_43 : decode cX6_give 43 = .ok (.iload_n 2, 1) := by decide +kernel
theorem dX6_give_44 : decode cX6_give 44 = .ok (.iadd, 1) := by decide +kernel
theorem dX6_give_45 : decode cX6_give 45 = .ok (.iastore, 1) := by decide +kernel
theorem dX6_give_46 : decode cX6_give 46 = .ok (.aload_n 0, 1) := by decide +kernel
theorem dX6_give_47 : decode cX6_give 47 = .ok (.getfield 40, 3) := by decide +kernel
theorem dX6_give_50 : decode cX6_give 50 = .ok (.iconst 1, 1) := by decide +kernel
theorem dX6_give_51 : decode cX6_give 51 = .ok (.iload_n 1, 1) := by decide +kernel
theorem dX6_give_52 : decode cX6_give 52 = .ok (.iadd, 1) := by decide +kernel
theorem dX6_give_53 : decode cX6_give 53 = .ok (.iaload, 1) := by decide +kernel
theorem dX6_give_54 : decode cX6_give 54 = .ok (.ireturn, 1) := by decide +kernel
theorem dX6_undo_0 : decode cX6_undo 0 = .ok (.aload_n 0, 1) := by decide +kernel
theorem dX6_undo_1 : decode cX6_undo 1 = .ok (.iconst 0, 1) := by decide +kernel
theorem dX6_undo_2 : decode cX6_undo 2 = .ok (.putfield 68, 3) := by decide +kernel
theorem dX6_undo_5 : decode cX6_undo 5 = .ok (.aload_n 0, 1) := by decide +kernel
theorem dX6_undo_6 : decode cX6_undo 6 = .ok (.getfield 126, 3) := by decide +kernel
theorem dX6_undo_9 : decode cX6_undo 9 = .ok (.ifCond .ne 6, 3) := by decide +kernel
theorem dX6_undo_12 : decode cX6_undo 12 = .ok (.bipush (-3), 2) := by decide +kernel
theorem dX6_undo_14 : decode cX6_undo 14 = .ok (.ireturn, 1) := by decide +kernel
theorem dX6_undo_15 : decode cX6_undo 15 = .ok (.aload_n 0, 1) := by decide +kernel
theorem dX6_undo_16 : decode cX6_undo 16 = .ok (.dup, 1) := by decide +kernel
theorem dX6_undo_17 : decode cX6_undo 17 = .ok (.getfield 126, 3) := by decide +kernel
theorem dX6_undo_20 : decode cX6_undo 20 = .ok (.iconst 1, 1) := by decide +kernel
theorem dX6_undo_21 : decode cX6_undo 21 = .ok (.isub, 1) := by decide +kernel
theorem dX6_undo_22 : decode cX6_undo 22 = .ok (.putfield 126, 3) := by decide +kernel
theorem dX6_undo_25 : decode cX6_undo 25 = .ok (.iconst 0, 1) := by decide +kernel
theorem dX6_undo_26 : decode cX6_undo 26 = .ok (.istore_n 1, 1) := by decide +kernel
theorem dX6_undo_27 : decode cX6_undo 27 = .ok (.iload_n 1, 1) := by decide +kernel
theorem dX6_undo_28 : decode cX6_undo 28 = .ok (.bipush 20, 2) := by decide +kernel
theorem dX6_undo_30 : decode cX6_undo 30 = .ok (.if_icmp .ge 29, 3) := by decide +kernel
theorem dX6_undo_33 : decode cX6_undo 33 = .ok (.aload_n 0, 1) := by decide +kernel
theorem dX6_undo_34 : decode cX6_undo 34 = .ok (.getfield 40, 3) := by decide +kernel
theorem dX6_undo_37 : decode cX6_undo 37 = .ok (.iload_n 1, 1) := by decide +kernel
theorem dX6_undo_38 : decode cX6_undo 38 = .ok (.aload_n 0, 1) := by decide +kernel
theorem dX6_undo_39 : decode cX6_undo 39 = .ok (.getfield 46, 3) := by decide +kernel
theorem dX6_undo_42 : decode cX6_undo 42 = .ok (.bipush 20, 2) := by decide +kernel
theorem dX6_undo_44 : decode cX6_undo 44 = .ok (.aload_n 0, 1) := by decide +kernel
theorem dX6_undo_45 : decode cX6_undo 45 = .ok (.getfield 126, 3) := by decide +kernel
theorem dX6_undo_48 : decode cX6_undo 48 = .ok (.imul, 1) := by decide +kernel
theorem dX6_undo_49 : decode cX6_undo 49 = .ok (.iload_n 1, 1) := by decide +kernel
theorem dX6_undo_50 : decode cX6_undo 50 = .ok (.iadd, 1) := by decide +kernel
theorem dX6_undo_51 : decode cX6_undo 51 = .ok (.iaload, 1) := by decide +kernel
theorem dX6_undo_52 : decode cX6_undo 52 = .ok (.iastore, 1) := by decide +kernel
theorem dX6_undo_53 : decode cX6_undo 53 = .ok (.iinc 1 1, 3) := by decide +kernel
theorem dX6_undo_56 : decode cX6_undo 56 = .ok (.goto (-29), 3) := by decide +kernel
theorem dX6_undo_59 : decode cX6_undo 59 = .ok (.aload_n 0, 1) := by decide +kernel
theorem dX6_undo_60 : decode cX6_undo 60 = .ok (.getfield 126, 3) := by decide +kernel
theorem dX6_undo_63 : decode cX6_undo 63 = .ok (.ireturn, 1) := by decide +kernel
theorem dX6_begin_0 : decode cX6_begin 0 = .ok (.iconst 0, 1) := by decide +kernel
theorem dX6_begin_1 : decode cX6_begin 1 = .ok (.istore_n 1, 1) := by decide +kernel
theorem dX6_begin_2 : decode cX6_begin 2 = .ok (.iload_n 1, 1) := by decide +kernel
theorem dX6_begin_3 : decode cX6_begin 3 = .ok (.bipush 20, 2) := by decide +kernel
theorem dX6_begin_5 : decode cX6_begin 5 = .ok (.if_icmp .ge 21, 3) := by decide +kernel
theorem dX6_begin_8 : decode cX6_begin 8 = .ok (.aload_n 0, 1) := by decide +kernel
theorem dX6_begin_9 : decode cX6_begin 9 = .ok (.getfield 43, 3) := by decide +kernel
theorem dX6_begin_12 : decode cX6_begin 12 = .ok (.iload_n 1, 1) := by decide +kernel
theorem dX6_begin_13 : decode cX6_begin 13 = .ok (.aload_n 0, 1) := by decide +kernel
theorem dX6_begin_14 : decode cX6_begin 14 = .ok (.getfield 40, 3) := by decide +kernel
theorem dX6_begin_17 : decode cX6_begin 17 = .ok (.iload_n 1, 1) := by decide +kernel
theorem dX6_begin_18 : decode cX6_begin 18 = .ok (.iaload, 1) := by decide +kernel
theorem dX6_begin_19 : decode cX6_begin 19 = .ok (.iastore, 1) := by decide +kernel
theorem dX6_begin_20 : decode cX6_begin 20 = .ok (.iinc 1 1, 3) := by decide +kernel
theorem dX6_begin_23 : decode cX6_begin 23 = .ok (.goto (-21), 3) := by decide +kernel
theorem dX6_begin_26 : decode cX6_begin 26 = .ok (.return_, 1) := by decide +kernel
theorem dX6_due_0 : decode cX6_due 0 = .ok (.aload_n 0, 1) := by decide +kernel
theorem dX6_due_1 : decode cX6_due 1 = .ok (.iconst 0, 1) := by decide +kernel
theorem dX6_due_2 : decode cX6_due 2 = .ok (.putfield 68, 3) := by decide +kernel
theorem dX6_due_5 : decode cX6_due 5 = .ok (.aload_n 0, 1) := by decide +kernel
theorem dX6_due_6 : decode cX6_due 6 = .ok (.iload_n 1, 1) := by decide +kernel
theorem dX6_due_7 : decode cX6_due 7 = .ok (.invokevirtual 158, 3) := by decide +kernel
theorem dX6_due_10 : decode cX6_due 10 = .ok (.ifCond .eq 5, 3) := by decide +kernel
theorem dX6_due_13 : decode cX6_due 13 = .ok (.iconst (-1), 1) := by decide +kernel
theorem dX6_due_14 : decode cX6_due 14 = .ok (.ireturn, 1) := by decide +kernel
theorem dX6_due_15 : decode cX6_due 15 = .ok (.iload_n 2, 1) := by decide +kernel
theorem dX6_due_16 : decode cX6_due 16 = .ok (.i2l, 1) := by decide +kernel
theorem dX6_due_17 : decode cX6_due 17 = .ok (.lconst 0, 1) := by decide +kernel
theorem dX6_due_18 : decode cX6_due 18 = .ok (.ldc2_w 186, 3) := by decide +kernel
theorem dX6_due_21 : decode cX6_due 21 = .ok (.invokestatic 75, 3) := by decide +kernel
theorem dX6_due_24 : decode cX6_due 24 = .ok (.ifCond .ne 6, 3) := by decide +kernel
theorem dX6_due_27 : decode cX6_due 27 = .ok (.bipush (-2), 2) := by decide +kernel
theorem dX6_due_29 : decode cX6_due 29 = .ok (.ireturn, 1) := by decide +kernel
theorem dX6_due_30 : decode cX6_due 30 = .ok (.aload_n 0, 1) := by decide +kernel
theorem dX6_due_31 : decode cX6_due 31 = .ok (.invokevirtual 188, 3) := by decide +kernel
theorem dX6_due_34 : decode cX6_due 34 = .ok (.aload_n 0, 1) := by decide +kernel
theorem dX6_due_35 : decode cX6_due 35 = .ok (.iload_n 2, 1) := by decide +kernel
theorem dX6_due_36 : decode cX6_due 36 = .ok (.invokevirtual 191, 3) := by decide +kernel
theorem dX6_due_39 : decode cX6_due 39 = .ok (.aload_n 0, 1) := by decide +kernel
theorem dX6_due_40 : decode cX6_due 40 = .ok (.aload_n 0, 1) := by decide +kernel
theorem dX6_due_41 : decode cX6_due 41 = .ok (.getfield 43, 3) := by decide +kernel
theorem dX6_due_44 : decode cX6_due 44 = .ok (.iload_n 1, 1) := by decide +kernel
theorem dX6_due_45 : decode cX6_due 45 = .ok (.invokevirtual 161, 3) := by decide +kernel
theorem dX6_due_48 : decode cX6_due 48 = .ok (.ireturn, 1) := by decide +kernel
theorem dX6_done_0 : decode cX6_done 0 = .ok (.aload_n 0, 1) := by decide +kernel
theorem dX6_done_1 : decode cX6_done 1 = .ok (.iconst 0, 1) := by decide +kernel
theorem dX6_done_2 : decode cX6_done 2 = .ok (.putfield 68, 3) := by decide +kernel
theorem dX6_done_5 : decode cX6_done 5 = .ok (.iload_n 1, 1) := by decide +kernel
theorem dX6_done_6 : decode cX6_done 6 = .ok (.i2l, 1) := by decide +kernel
theorem dX6_done_7 : decode cX6_done 7 = .ok (.lconst 0, 1) := by decide +kernel
theorem dX6_done_8 : decode cX6_done 8 = .ok (.ldc2_w 186, 3) := by decide +kernel
theorem dX6_done_11 : decode cX6_done 11 = .ok (.invokestatic 75, 3) := by decide +kernel
theorem dX6_done_14 : decode cX6_done 14 = .ok (.ifCond .ne 6, 3) := by decide +kernel
theorem dX6_done_17 : decode cX6_done 17 = .ok (.bipush (-2), 2) := by decide +kernel
theorem dX6_done_19 : decode cX6_done 19 = .ok (.ireturn, 1) := by decide +kernel
theorem dX6_done_20 : decode cX6_done 20 = .ok (.aload_n 0, 1) := by decide +kernel
theorem dX6_done_21 : decode cX6_done 21 = .ok (.invokevirtual 188, 3) := by decide +kernel
theorem dX6_done_24 : decode cX6_done 24 = .ok (.aload_n 0, 1) := by decide +kernel
theorem dX6_done_25 : decode cX6_done 25 = .ok (.iload_n 1, 1) := by decide +kernel
theorem dX6_done_26 : decode cX6_done 26 = .ok (.invokevirtual 191, 3) := by decide +kernel
theorem dX6_done_29 : decode cX6_done 29 = .ok (.aload_n 0, 1) := by decide +kernel
theorem dX6_done_30 : decode cX6_done 30 = .ok (.aload_n 0, 1) := by decide +kernel
theorem dX6_done_31 : decode cX6_done 31 = .ok (.getfield 43, 3) := by decide +kernel
theorem dX6_done_34 : decode cX6_done 34 = .ok (.iconst 1, 1) := by decide +kernel
theorem dX6_done_35 : decode cX6_done 35 = .ok (.invokevirtual 141, 3) := by decide +kernel
theorem dX6_done_38 : decode cX6_done 38 = .ok (.ireturn, 1) := by decide +kernel
theorem dX6_coins_0 : decode cX6_coins 0 = .ok (.aload_n 0, 1) := by decide +kernel
theorem dX6_coins_1 : decode cX6_coins 1 = .ok (.iconst 0, 1) := by decide +kernel
theorem dX6_coins_2 : decode cX6_coins 2 = .ok (.putfield 68, 3) := by decide +kernel
theorem dX6_coins_5 : decode cX6_coins 5 = .ok (.aload_n 0, 1) := by decide +kernel
theorem dX6_coins_6 : decode cX6_coins 6 = .ok (.iload_n 1, 1) := by decide +kernel
theorem dX6_coins_7 : decode cX6_coins 7 = .ok (.invokevirtual 147, 3) := by decide +kernel
theorem dX6_coins_10 : decode cX6_coins 10 = .ok (.ifCond .eq 5, 3) := by decide +kernel
theorem dX6_coins_13 : decode cX6_coins 13 = .ok (.iconst (-1), 1) := by decide +kernel
theorem dX6_coins_14 : decode cX6_coins 14 = .ok (.ireturn, 1) := by decide +kernel
theorem dX6_coins_15 : decode cX6_coins 15 = .ok (.iload_n 2, 1) := by decide +kernel
theorem dX6_coins_16 : decode cX6_coins 16 = .ok (.i2l, 1) := by decide +kernel
theorem dX6_coins_17 : decode cX6_coins 17 = .ok (.lconst 0, 1) := by decide +kernel
theorem dX6_coins_18 : decode cX6_coins 18 = .ok (.ldc2_w 186, 3) := by decide +kernel
theorem dX6_coins_21 : decode cX6_coins 21 = .ok (.invokestatic 75, 3) := by decide +kernel
theorem dX6_coins_24 : decode cX6_coins 24 = .ok (.ifCond .ne 6, 3) := by decide +kernel
theorem dX6_coins_27 : decode cX6_coins 27 = .ok (.bipush (-2), 2) := by decide +kernel
theorem dX6_coins_29 : decode cX6_coins 29 = .ok (.ireturn, 1) := by decide +kernel
theorem dX6_coins_30 : decode cX6_coins 30 = .ok (.aload_n 0, 1) := by decide +kernel
theorem dX6_coins_31 : decode cX6_coins 31 = .ok (.invokevirtual 188, 3) := by decide +kernel
theorem dX6_coins_34 : decode cX6_coins 34 = .ok (.aload_n 0, 1) := by decide +kernel
theorem dX6_coins_35 : decode cX6_coins 35 = .ok (.iload_n 2, 1) := by decide +kernel
theorem dX6_coins_36 : decode cX6_coins 36 = .ok (.invokevirtual 191, 3) := by decide +kernel
theorem dX6_coins_39 : decode cX6_coins 39 = .ok (.aload_n 0, 1) := by decide +kernel
theorem dX6_coins_40 : decode cX6_coins 40 = .ok (.getfield 43, 3) := by decide +kernel
theorem dX6_coins_43 : decode cX6_coins 43 = .ok (.iconst 1, 1) := by decide +kernel
theorem dX6_coins_44 : decode cX6_coins 44 = .ok (.iload_n 1, 1) := by decide +kernel
theorem dX6_coins_45 : decode cX6_coins 45 = .ok (.iadd, 1) := by decide +kernel
theorem dX6_coins_46 : decode cX6_coins 46 = .ok (.iaload, 1) := by decide +kernel
theorem dX6_coins_47 : decode cX6_coins 47 = .ok (.ireturn, 1) := by decide +kernel
theorem dX6_worthOf_0 : decode cX6_worthOf 0 = .ok (.iconst 0, 1) := by decide +kernel
theorem dX6_worthOf_1 : decode cX6_worthOf 1 = .ok (.istore_n 2, 1) := by decide +kernel
theorem dX6_worthOf_2 : decode cX6_worthOf 2 = .ok (.iconst 0, 1) := by decide +kernel
theorem dX6_worthOf_3 : decode cX6_worthOf 3 = .ok (.istore_n 3, 1) := by decide +kernel
theorem dX6_worthOf_4 : decode cX6_worthOf 4 = .ok (.iload_n 3, 1) := by decide +kernel
theorem dX6_worthOf_5 : decode cX6_worthOf 5 = .ok (.aload_n 0, 1) := by decide +kernel
theorem dX6_worthOf_6 : decode cX6_worthOf 6 = .ok (.getfield 79, 3) := by decide +kernel
theorem dX6_worthOf_9 : decode cX6_worthOf 9 = .ok (.if_icmp .ge 30, 3) := by decide +kernel
theorem dX6_worthOf_12 : decode cX6_worthOf 12 = .ok (.iload_n 2, 1) := by decide +kernel
theorem dX6_worthOf_13 : decode cX6_worthOf 13 = .ok (.iload_n 1, 1) := by decide +kernel
theorem dX6_worthOf_14 : decode cX6_worthOf 14 = .ok (.iload_n 3, 1) := by decide +kernel
theorem dX6_worthOf_15 : decode cX6_worthOf 15 = .ok (.invokestatic 195, 3) := by decide +kernel
theorem dX6_worthOf_18 : decode cX6_worthOf 18 = .ok (.ifCond .eq 12, 3) := by decide +kernel
theorem dX6_worthOf_21 : decode cX6_worthOf 21 = .ok (.aload_n 0, 1) := by decide +kernel
theorem dX6_worthOf_22 : decode cX6_worthOf 22 = .ok (.getfield 16, 3) := by decide +kernel
theorem dX6_worthOf_25 : decode cX6_worthOf 25 = .ok (.iload_n 3, 1) := by decide +kernel
theorem dX6_worthOf_26 : decode cX6_worthOf 26 = .ok (.iaload, 1) := by decide +kernel
theorem dX6_worthOf_27 : decode cX6_worthOf 27 = .ok (.goto 4, 3) := by decide +kernel
theorem dX6_worthOf_30 : decode cX6_worthOf 30 = .ok (.iconst 0, 1) := by decide +kernel
theorem dX6_worthOf_31 : decode cX6_worthOf 31 = .ok (.iadd, 1) := by decide +kernel
theorem dX6_worthOf_32 : decode cX6_worthOf 32 = .ok (.istore_n 2, 1) := by decide +kernel
theorem dX6_worthOf_33 : decode cX6_worthOf 33 = .ok (.iinc 3 1, 3) := by decide +kernel
theorem dX6_worthOf_36 : decode cX6_worthOf 36 = .ok (.goto (-32), 3) := by decide +kernel
theorem dX6_worthOf_39 : decode cX6_worthOf 39 = .ok (.iload_n 2, 1) := by decide +kernel
theorem dX6_worthOf_40 : decode cX6_worthOf 40 = .ok (.ireturn, 1) := by decide +kernel
theorem dX6_doneBy_0 : decode cX6_doneBy 0 = .ok (.aload_n 0, 1) := by decide +kernel
theorem dX6_doneBy_1 : decode cX6_doneBy 1 = .ok (.invokevirtual 188, 3) := by decide +kernel
theorem dX6_doneBy_4 : decode cX6_doneBy 4 = .ok (.iconst 0, 1) := by decide +kernel
theorem dX6_doneBy_5 : decode cX6_doneBy 5 = .ok (.istore_n 3, 1) := by decide +kernel
theorem dX6_doneBy_6 : decode cX6_doneBy 6 = .ok (.iload_n 3, 1) := by decide +kernel
theorem dX6_doneBy_7 : decode cX6_doneBy 7 = .ok (.aload_n 0, 1) := by decide +kernel
theorem dX6_doneBy_8 : decode cX6_doneBy 8 = .ok (.getfield 79, 3) := by decide +kernel
theorem dX6_doneBy_11 : decode cX6_doneBy 11 = .ok (.if_icmp .ge 26, 3) := by decide +kernel
theorem dX6_doneBy_14 : decode cX6_doneBy 14 = .ok (.iload_n 2, 1) := by decide +kernel
theorem dX6_doneBy_15 : decode cX6_doneBy 15 = .ok (.iload_n 3, 1) := by decide +kernel
theorem dX6_doneBy_16 : decode cX6_doneBy 16 = .ok (.invokestatic 195, 3) := by decide +kernel
theorem dX6_doneBy_19 : decode cX6_doneBy 19 = .ok (.ifCond .eq 12, 3) := by decide +kernel
theorem dX6_doneBy_22 : decode cX6_doneBy 22 = .ok (.aload_n 0, 1) := by decide +kernel
theorem dX6_doneBy_23 : decode cX6_doneBy 23 = .ok (.aload_n 0, 1) := by decide +kernel
theorem dX6_doneBy_24 : decode cX6_doneBy 24 = .ok (.getfield 43, 3) := by decide +kernel
theorem dX6_doneBy_27 : decode cX6_doneBy 27 = .ok (.iload_n 3, 1) := by decide +kernel
theorem dX6_doneBy_28 : decode cX6_doneBy 28 = .ok (.invokevirtual 174, 3) := by decide +kernel
theorem dX6_doneBy_31 : decode cX6_doneBy 31 = .ok (.iinc 3 1, 3) := by decide +kernel
theorem dX6_doneBy_34 : decode cX6_doneBy 34 = .ok (.goto (-28), 3) := by decide +kernel
theorem dX6_doneBy_37 : decode cX6_doneBy 37 = .ok (.aload_n 0, 1) := by decide +kernel
theorem dX6_doneBy_38 : decode cX6_doneBy 38 = .ok (.bipush 20, 2) := by decide +kernel
theorem dX6_doneBy_40 : decode cX6_doneBy 40 = .ok (.invokevirtual 191, 3) := by decide +kernel
theorem dX6_doneBy_43 : decode cX6_doneBy 43 = .ok (.aload_n 0, 1) := by decide +kernel
theorem dX6_doneBy_44 : decode cX6_doneBy 44 = .ok (.aload_n 0, 1) := by decide +kernel
theorem dX6_doneBy_45 : decode cX6_doneBy 45 = .ok (.getfield 43, 3) := by decide +kernel
theorem dX6_doneBy_48 : decode cX6_doneBy 48 = .ok (.iconst 1, 1) := by decide +kernel
theorem dX6_doneBy_49 : decode cX6_doneBy 49 = .ok (.invokevirtual 141, 3) := by decide +kernel
theorem dX6_doneBy_52 : decode cX6_doneBy 52 = .ok (.aload_n 0, 1) := by decide +kernel
theorem dX6_doneBy_53 : decode cX6_doneBy 53 = .ok (.iload_n 1, 1) := by decide +kernel
theorem dX6_doneBy_54 : decode cX6_doneBy 54 = .ok (.invokevirtual 155, 3) := by decide +kernel
theorem dX6_doneBy_57 : decode cX6_doneBy 57 = .ok (.iand, 1) := by decide +kernel
theorem dX6_doneBy_58 : decode cX6_doneBy 58 = .ok (.invokestatic 199, 3) := by decide +kernel
theorem dX6_doneBy_61 : decode cX6_doneBy 61 = .ok (.ireturn, 1) := by decide +kernel
theorem dX6_raise_0 : decode cX6_raise 0 = .ok (.aload_n 0, 1) := by decide +kernel
theorem dX6_raise_1 : decode cX6_raise 1 = .ok (.iconst 0, 1) := by decide +kernel
theorem dX6_raise_2 : decode cX6_raise 2 = .ok (.putfield 68, 3) := by decide +kernel
theorem dX6_raise_5 : decode cX6_raise 5 = .ok (.aload_n 0, 1) := by decide +kernel
theorem dX6_raise_6 : decode cX6_raise 6 = .ok (.iload_n 1, 1) := by decide +kernel
theorem dX6_raise_7 : decode cX6_raise 7 = .ok (.invokevirtual 147, 3) := by decide +kernel
theorem dX6_raise_10 : decode cX6_raise 10 = .ok (.ifCond .eq 5, 3) := by decide +kernel
theorem dX6_raise_13 : decode cX6_raise 13 = .ok (.iconst (-1), 1) := by decide +kernel
theorem dX6_raise_14 : decode cX6_raise 14 = .ok (.ireturn, 1) := by decide +kernel
theorem dX6_raise_15 : decode cX6_raise 15 = .ok (.iload_n 2, 1) := by decide +kernel
theorem dX6_raise_16 : decode cX6_raise 16 = .ok (.i2l, 1) := by decide +kernel
theorem dX6_raise_17 : decode cX6_raise 17 = .ok (.lconst 0, 1) := by decide +kernel
theorem dX6_raise_18 : decode cX6_raise 18 = .ok (.ldc2_w 202, 3) := by decide +kernel
theorem dX6_raise_21 : decode cX6_raise 21 = .ok (.invokestatic 75, 3) := by decide +kernel
theorem dX6_raise_24 : decode cX6_raise 24 = .ok (.ifCond .eq 13, 3) := by decide +kernel
theorem dX6_raise_27 : decode cX6_raise 27 = .ok (.iload_n 3, 1) := by decide +kernel
theorem dX6_raise_28 : decode cX6_raise 28 = .ok (.i2l, 1) := by decide +kernel
theorem dX6_raise_29 : decode cX6_raise 29 = .ok (.lconst 0, 1) := by decide +kernel
theorem dX6_raise_30 : decode cX6_raise 30 = .ok (.lconst 1, 1) := by decide +kernel
theorem dX6_raise_31 : decode cX6_raise 31 = .ok (.invokestatic 75, 3) := by decide +kernel
theorem dX6_raise_34 : decode cX6_raise 34 = .ok (.ifCond .ne 6, 3) := by decide +kernel
theorem dX6_raise_37 : decode cX6_raise 37 = .ok (.bipush (-2), 2) := by decide +kernel
theorem dX6_raise_39 : decode cX6_raise 39 = .ok (.ireturn, 1) := by decide +kernel
theorem dX6_raise_40 : decode cX6_raise 40 = .ok (.aload_n 0, 1) := by decide +kernel
theorem dX6_raise_41 : decode cX6_raise 41 = .ok (.aload_n 0, 1) := by decide +kernel
theorem dX6_raise_42 : decode cX6_raise 42 = .ok (.getfield 40, 3) := by decide +kernel
theorem dX6_raise_45 : decode cX6_raise 45 = .ok (.iconst 0, 1) := by decide +kernel
theorem dX6_raise_46 : decode cX6_raise 46 = .ok (.invokevirtual 137, 3) := by decide +kernel
theorem dX6_raise_49 : decode cX6_raise 49 = .ok (.aload_n 0, 1) := by decide +kernel
theorem dX6_raise_50 : decode cX6_raise 50 = .ok (.iload_n 1, 1) := by decide +kernel
theorem dX6_raise_51 : decode cX6_raise 51 = .ok (.invokevirtual 151, 3) := by decide +kernel
theorem dX6_raise_54 : decode cX6_raise 54 = .ok (.iand, 1) := by decide +kernel
theorem dX6_raise_55 : decode cX6_raise 55 = .ok (.istore 4, 2) := by decide +kernel
theorem dX6_raise_57 : decode cX6_raise 57 = .ok (.aload_n 0, 1) := by decide +kernel
theorem dX6_raise_58 : decode cX6_raise 58 = .ok (.bipush (-9), 2) := by decide +kernel
theorem dX6_raise_60 : decode cX6_raise 60 = .ok (.putfield 204, 3) := by decide +kernel
theorem dX6_raise_63 : decode cX6_raise 63 = .ok (.aload_n 0, 1) := by decide +kernel
theorem dX6_raise_64 : decode cX6_raise 64 = .ok (.bipush (-9), 2) := by decide +kernel
theorem dX6_raise_66 : decode cX6_raise 66 = .ok (.putfield 207, 3) := by decide +kernel
theorem dX6_raise_69 : decode cX6_raise 69 = .ok (.iconst 0, 1) := by decide +kernel
theorem dX6_raise_70 : decode cX6_raise 70 = .ok (.istore 5, 2) := by decide +kernel
theorem dX6_raise_72 : decode cX6_raise 72 = .ok (.iload 5, 2) := by decide +kernel
theorem dX6_raise_74 : decode cX6_raise 74 = .ok (.iconst 1, 1) := by decide +kernel
theorem dX6_raise_75 : decode cX6_raise 75 = .ok (.aload_n 0, 1) := by decide +kernel
theorem dX6_raise_76 : decode cX6_raise 76 = .ok (.getfield 79, 3) := by decide +kernel
theorem dX6_raise_79 : decode cX6_raise 79 = .ok (.ishl, 1) := by decide +kernel
theorem dX6_raise_80 : decode cX6_raise 80 = .ok (.if_icmp .ge 107, 3) := by decide +kernel
theorem dX6_raise_83 : decode cX6_raise 83 = .ok (.aload_n 0, 1) := by decide +kernel
theorem dX6_raise_84 : decode cX6_raise 84 = .ok (.iload 5, 2) := by decide +kernel
theorem dX6_raise_86 : decode cX6_raise 86 = .ok (.invokevirtual 210, 3) := by decide +kernel
theorem dX6_raise_89 : decode cX6_raise 89 = .ok (.istore 6, 2) := by decide +kernel
theorem dX6_raise_91 : decode cX6_raise 91 = .ok (.iload 5, 2) := by decide +kernel
theorem dX6_raise_93 : decode cX6_raise 93 = .ok (.iload 4, 2) := by decide +kernel
theorem dX6_raise_95 : decode cX6_raise 95 = .ok (.iconst (-1), 1) := by decide +kernel
theorem dX6_raise_96 : decode cX6_raise 96 = .ok (.ixor, 1) := by decide +kernel
theorem dX6_raise_97 : decode cX6_raise 97 = .ok (.iand, 1) := by decide +kernel
theorem dX6_raise_98 : decode cX6_raise 98 = .ok (.ifCond .ne 83, 3) := by decide +kernel
theorem dX6_raise_101 : decode cX6_raise 101 = .ok (.iload 6, 2) := by decide +kernel
theorem dX6_raise_103 : decode cX6_raise 103 = .ok (.aload_n 0, 1) := by decide +kernel
theorem dX6_raise_104 : decode cX6_raise 104 = .ok (.getfield 40, 3) := by decide +kernel
theorem dX6_raise_107 : decode cX6_raise 107 = .ok (.iconst 0, 1) := by decide +kernel
theorem dX6_raise_108 : decode cX6_raise 108 = .ok (.iaload, 1) := by decide +kernel
theorem dX6_raise_109 : decode cX6_raise 109 = .ok (.if_icmp .gt 72, 3) := by decide +kernel
theorem dX6_raise_112 : decode cX6_raise 112 = .ok (.aload_n 0, 1) := by decide +kernel
theorem dX6_raise_113 : decode cX6_raise 113 = .ok (.getfield 40, 3) := by decide +kernel
theorem dX6_raise_116 : decode cX6_raise 116 = .ok (.iconst 1, 1) := by decide +kernel
theorem dX6_raise_117 : decode cX6_raise 117 = .ok (.iload_n 1, 1) := by decide +kernel
theorem dX6_raise_118 : decode cX6_raise 118 = .ok (.iadd, 1) := by decide +kernel
theorem dX6_raise_119 : decode cX6_raise 119 = .ok (.iaload, 1) := by decide +kernel
theorem dX6_raise_120 : decode cX6_raise 120 = .ok (.iload 6, 2) := by decide +kernel
theorem dX6_raise_122 : decode cX6_raise 122 = .ok (.iadd, 1) := by decide +kernel
theorem dX6_raise_123 : decode cX6_raise 123 = .ok (.iload_n 2, 1) := by decide +kernel
theorem dX6_raise_124 : decode cX6_raise 124 = .ok (.if_icmp .lt 57, 3) := by decide +kernel
theorem dX6_raise_127 : decode cX6_raise 127 = .ok (.aload_n 0, 1) := by decide +kernel
theorem dX6_raise_128 : decode cX6_raise 128 = .ok (.iload_n 1, 1) := by decide +kernel
theorem dX6_raise_129 : decode cX6_raise 129 = .ok (.iload 5, 2) := by decide +kernel
theorem dX6_raise_131 : decode cX6_raise 131 = .ok (.invokevirtual 213, 3) := by decide +kernel
theorem dX6_raise_134 : decode cX6_raise 134 = .ok (.istore 7, 2) := by decide +kernel
theorem dX6_raise_136 : decode cX6_raise 136 = .ok (.iload 7, 2) := by decide +kernel
theorem dX6_raise_138 : decode cX6_raise 138 = .ok (.aload_n 0, 1) := by decide +kernel
theorem dX6_raise_139 : decode cX6_raise 139 = .ok (.getfield 207, 3) := by decide +kernel
theorem dX6_raise_142 : decode cX6_raise 142 = .ok (.if_icmp .gt 27, 3) := by decide +kernel
theorem dX6_raise_145 : decode cX6_raise 145 = .ok (.iload 7, 2) := by decide +kernel
theorem dX6_raise_147 : decode cX6_raise 147 = .ok (.aload_n 0, 1) := by decide +kernel
theorem dX6_raise_148 : decode cX6_raise 148 = .ok (.getfield 207, 3) := by decide +kernel
theorem dX6_raise_151 : decode cX6_raise 151 = .ok (.if_icmp .ne 30, 3) := by decide +kernel
theorem dX6_raise_154 : decode cX6_raise 154 = .ok (.iload 5, 2) := by decide +kernel
theorem dX6_raise_156 : decode cX6_raise 156 = .ok (.invokestatic 199, 3) := by decide +kernel
theorem dX6_raise_159 : decode cX6_raise 159 = .ok (.aload_n 0, 1) := by decide +kernel
theorem dX6_raise_160 : decode cX6_raise 160 = .ok (.getfield 204, 3) := by decide +kernel
theorem dX6_raise_163 : decode cX6_raise 163 = .ok (.invokestatic 199, 3) := by decide +kernel
theorem dX6_raise_166 : decode cX6_raise 166 = .ok (.if_icmp .ge 15, 3) := by decide +kernel
theorem dX6_raise_169 : decode cX6_raise 169 = .ok (.aload_n 0, 1) := by decide +kernel
theorem dX6_raise_170 : decode cX6_raise 170 = .ok (.iload 7, 2) := by decide +kernel
theorem dX6_raise_172 : decode cX6_raise 172 = .ok (.putfield 207, 3) := by decide +kernel
theorem dX6_raise_175 : decode cX6_raise 175 = .ok (.aload_n 0, 1) := by decide +kernel
theorem dX6_raise_176 : decode cX6_raise 176 = .ok (.iload 5, 2) := by decide +kernel
theorem dX6_raise_178 : decode cX6_raise 178 = .ok (.putfield 204, 3) := by decide +kernel
theorem dX6_raise_181 : decode cX6_raise 181 = .ok (.iinc 5 1, 3) := by decide +kernel
theorem dX6_raise_184 : decode cX6_raise 184 = .ok (.goto (-112), 3) := by decide +kernel
theorem dX6_raise_187 : decode cX6_raise 187 = .ok (.iload_n 3, 1) := by decide +kernel
theorem dX6_raise_188 : decode cX6_raise 188 = .ok (.ifCond .ne 10, 3) := by decide +kernel
theorem dX6_raise_191 : decode cX6_raise 191 = .ok (.aload_n 0, 1) := by decide +kernel
theorem dX6_raise_192 : decode cX6_raise 192 = .ok (.getfield 204, 3) := by decide +kernel
theorem dX6_raise_195 : decode cX6_raise 195 = .ok (.goto 7, 3) := by decide +kernel
theorem dX6_raise_198 : decode cX6_raise 198 = .ok (.aload_n 0, 1) := by decide +kernel
theorem dX6_raise_199 : decode cX6_raise 199 = .ok (.getfield 207, 3) := by decide +kernel
theorem dX6_raise_202 : decode cX6_raise 202 = .ok (.ireturn, 1) := by decide +kernel
theorem dX6_back_0 : decode cX6_back 0 = .ok (.aload_n 0, 1) := by decide +kernel
theorem dX6_back_1 : decode cX6_back 1 = .ok (.iconst 0, 1) := by decide +kernel
theorem dX6_back_2 : decode cX6_back 2 = .ok (.putfield 68, 3) := by decide +kernel
theorem dX6_back_5 : decode cX6_back 5 = .ok (.aload_n 0, 1) := by decide +kernel
theorem dX6_back_6 : decode cX6_back 6 = .ok (.iload_n 1, 1) := by decide +kernel
theorem dX6_back_7 : decode cX6_back 7 = .ok (.invokevirtual 158, 3) := by decide +kernel
theorem dX6_back_10 : decode cX6_back 10 = .ok (.ifCond .eq 5, 3) := by decide +kernel
theorem dX6_back_13 : decode cX6_back 13 = .ok (.iconst (-1), 1) := by decide +kernel
theorem dX6_back_14 : decode cX6_back 14 = .ok (.ireturn, 1) := by decide +kernel
theorem dX6_back_15 : decode cX6_back 15 = .ok (.aload_n 0, 1) := by decide +kernel
theorem dX6_back_16 : decode cX6_back 16 = .ok (.getfield 40, 3) := by decide +kernel
theorem dX6_back_19 : decode cX6_back 19 = .ok (.iconst 4, 1) := by decide +kernel
theorem dX6_back_20 : decode cX6_back 20 = .ok (.iload_n 1, 1) := by decide +kernel
theorem dX6_back_21 : decode cX6_back 21 = .ok (.iadd, 1) := by decide +kernel
theorem dX6_back_22 : decode cX6_back 22 = .ok (.iaload, 1) := by decide +kernel
theorem dX6_back_23 : decode cX6_back 23 = .ok (.iconst 1, 1) := by decide +kernel
theorem dX6_back_24 : decode cX6_back 24 = .ok (.if_icmp .eq 6, 3) := by decide +kernel
theorem dX6_back_27 : decode cX6_back 27 = .ok (.bipush (-3), 2) := by decide +kernel
theorem dX6_back_29 : decode cX6_back 29 = .ok (.ireturn, 1) := by decide +kernel
theorem dX6_back_30 : decode cX6_back 30 = .ok (.aload_n 0, 1) := by decide +kernel
theorem dX6_back_31 : decode cX6_back 31 = .ok (.invokevirtual 188, 3) := by decide +kernel
theorem dX6_back_34 : decode cX6_back 34 = .ok (.iconst 0, 1) := by decide +kernel
theorem dX6_back_35 : decode cX6_back 35 = .ok (.istore_n 2, 1) := by decide +kernel
theorem dX6_back_36 : decode cX6_back 36 = .ok (.iload_n 2, 1) := by decide +kernel
theorem dX6_back_37 : decode cX6_back 37 = .ok (.bipush 20, 2) := by decide +kernel
theorem dX6_back_39 : decode cX6_back 39 = .ok (.if_icmp .gt 32, 3) := by decide +kernel
theorem dX6_back_42 : decode cX6_back 42 = .ok (.aload_n 0, 1) := by decide +kernel
theorem dX6_back_43 : decode cX6_back 43 = .ok (.aload_n 0, 1) := by decide +kernel
theorem dX6_back_44 : decode cX6_back 44 = .ok (.getfield 43, 3) := by decide +kernel
theorem dX6_back_47 : decode cX6_back 47 = .ok (.iload_n 1, 1) := by decide +kernel
theorem dX6_back_48 : decode cX6_back 48 = .ok (.invokevirtual 178, 3) := by decide +kernel
theorem dX6_back_51 : decode cX6_back 51 = .ok (.ifCond .eq 5, 3) := by decide +kernel
theorem dX6_back_54 : decode cX6_back 54 = .ok (.iload_n 2, 1) := by decide +kernel
theorem dX6_back_55 : decode cX6_back 55 = .ok (.ireturn, 1) := by decide +kernel
theorem dX6_back_56 : decode cX6_back 56 = .ok (.aload_n 0, 1) := by decide +kernel
theorem dX6_back_57 : decode cX6_back 57 = .ok (.aload_n 0, 1) := by decide +kernel
theorem dX6_back_58 : decode cX6_back 58 = .ok (.getfield 43, 3) := by decide +kernel
theorem dX6_back_61 : decode cX6_back 61 = .ok (.invokevirtual 133, 3) := by decide +kernel
theorem dX6_back_64 : decode cX6_back 64 = .ok (.pop, 1) := by decide +kernel
theorem dX6_back_65 : decode cX6_back 65 = .ok (.iinc 2 1, 3) := by decide +kernel
theorem dX6_back_68 : decode cX6_back 68 = .ok (.goto (-32), 3) := by decide +kernel
theorem dX6_back_71 : decode cX6_back 71 = .ok (.bipush (-9), 2) := by decide +kernel
theorem dX6_back_73 : decode cX6_back 73 = .ok (.ireturn, 1) := by decide +kernel
theorem dX6_longPower_0 : decode cX6_longPower 0 = .ok (.lconst 1, 1) := by decide +kernel
theorem dX6_longPower_1 : decode cX6_longPower 1 = .ok (.lstore_n 3, 1) := by decide +kernel
theorem dX6_longPower_2 : decode cX6_longPower 2 = .ok (.iconst 0, 1) := by decide +kernel
theorem dX6_longPower_3 : decode cX6_longPower 3 = .ok (.istore 5, 2) := by decide +kernel
theorem dX6_longPower_5 : decode cX6_longPower 5 = .ok (.iload 5, 2) := by decide +kernel
theorem dX6_longPower_7 : decode cX6_longPower 7 = .ok (.iload_n 2, 1) := by decide +kernel
theorem dX6_longPower_8 : decode cX6_longPower 8 = .ok (.if_icmp .ge 13, 3) := by decide +kernel
theorem dX6_longPower_11 : decode cX6_longPower 11 = .ok (.lload_n 3, 1) := by decide +kernel
theorem dX6_longPower_12 : decode cX6_longPower 12 = .ok (.lload_n 0, 1) := by decide +kernel
theorem dX6_longPower_13 : decode cX6_longPower 13 = .ok (.lmul, 1) := by decide +kernel
theorem dX6_longPower_14 : decode cX6_longPower 14 = .ok (.lstore_n 3, 1) := by decide +kernel
theorem dX6_longPower_15 : decode cX6_longPower 15 = .ok (.iinc 5 1, 3) := by decide +kernel
theorem dX6_longPower_18 : decode cX6_longPower 18 = .ok (.goto (-13), 3) := by decide +kernel
theorem dX6_longPower_21 : decode cX6_longPower 21 = .ok (.lload_n 3, 1) := by decide +kernel
theorem dX6_longPower_22 : decode cX6_longPower 22 = .ok (.lreturn, 1) := by decide +kernel
theorem dX6_doesTo_0 : decode cX6_doesTo 0 = .ok (.iload_n 1, 1) := by decide +kernel
theorem dX6_doesTo_1 : decode cX6_doesTo 1 = .ok (.iconst 4, 1) := by decide +kernel
theorem dX6_doesTo_2 : decode cX6_doesTo 2 = .ok (.if_icmp .ne 30, 3) := by decide +kernel
theorem dX6_doesTo_5 : decode cX6_doesTo 5 = .ok (.aload_n 0, 1) := by decide +kernel
theorem dX6_doesTo_6 : decode cX6_doesTo 6 = .ok (.iload_n 2, 1) := by decide +kernel
theorem dX6_doesTo_7 : decode cX6_doesTo 7 = .ok (.invokevirtual 164, 3) := by decide +kernel
theorem dX6_doesTo_10 : decode cX6_doesTo 10 = .ok (.ifCond .ne 20, 3) := by decide +kernel
theorem dX6_doesTo_13 : decode cX6_doesTo 13 = .ok (.aload_n 0, 1) := by decide +kernel
theorem dX6_doesTo_14 : decode cX6_doesTo 14 = .ok (.getfield 43, 3) := by decide +kernel
theorem dX6_doesTo_17 : decode cX6_doesTo 17 = .ok (.bipush 14, 2) := by decide +kernel
theorem dX6_doesTo_19 : decode cX6_doesTo 19 = .ok (.iload_n 2, 1) := by decide +kernel
theorem dX6_doesTo_20 : decode cX6_doesTo 20 = .ok (.iadd, 1) := by decide +kernel
theorem dX6_doesTo_21 : decode cX6_doesTo 21 = .ok (.iaload, 1) := by decide +kernel
theorem dX6_doesTo_22 : decode cX6_doesTo 22 = .ok (.iconst 1, 1) := by decide +kernel
theorem dX6_doesTo_23 : decode cX6_doesTo 23 = .ok (.if_icmp .ne 7, 3) := by decide +kernel
theorem dX6_doesTo_26 : decode cX6_doesTo 26 = .ok (.iconst 1, 1) := by decide +kernel
theorem dX6_doesTo_27 : decode cX6_doesTo 27 = .ok (.goto 4, 3) := by decide +kernel
theorem dX6_doesTo_30 : decode cX6_doesTo 30 = .ok (.iconst 0, 1) := by decide +kernel
theorem dX6_doesTo_31 : decode cX6_doesTo 31 = .ok (.ireturn, 1) := by decide +kernel
theorem dX6_doesTo_32 : decode cX6_doesTo 32 = .ok (.aload_n 0, 1) := by decide +kernel
theorem dX6_doesTo_33 : decode cX6_doesTo 33 = .ok (.iload_n 2, 1) := by decide +kernel
theorem dX6_doesTo_34 : decode cX6_doesTo 34 = .ok (.invokevirtual 158, 3) := by decide +kernel
theorem dX6_doesTo_37 : decode cX6_doesTo 37 = .ok (.ifCond .eq 5, 3) := by decide +kernel
theorem dX6_doesTo_40 : decode cX6_doesTo 40 = .ok (.iconst 0, 1) := by decide +kernel
theorem dX6_doesTo_41 : decode cX6_doesTo 41 = .ok (.ireturn, 1) := by decide +kernel
theorem dX6_doesTo_42 : decode cX6_doesTo 42 = .ok (.iload_n 1, 1) := by decide +kernel
theorem dX6_doesTo_43 : decode cX6_doesTo 43 = .ok (.iconst 1, 1) := by decide +kernel
theorem dX6_doesTo_44 : decode cX6_doesTo 44 = .ok (.if_icmp .ne 26, 3) := by decide +kernel
theorem dX6_doesTo_47 : decode cX6_doesTo 47 = .ok (.aload_n 0, 1) := by decide +kernel
theorem dX6_doesTo_48 : decode cX6_doesTo 48 = .ok (.aload_n 0, 1) := by decide +kernel
theorem dX6_doesTo_49 : decode cX6_doesTo 49 = .ok (.getfield 43, 3) := by decide +kernel
theorem dX6_doesTo_52 : decode cX6_doesTo 52 = .ok (.iload_n 2, 1) := by decide +kernel
theorem dX6_doesTo_53 : decode cX6_doesTo 53 = .ok (.invokevirtual 170, 3) := by decide +kernel
theorem dX6_doesTo_56 : decode cX6_doesTo 56 = .ok (.ifCond .eq 14, 3) := by decide +kernel
theorem dX6_doesTo_59 : decode cX6_doesTo 59 = .ok (.aload_n 0, 1) := by decide +kernel
theorem dX6_doesTo_60 : decode cX6_doesTo 60 = .ok (.aload_n 0, 1) := by decide +kernel
theorem dX6_doesTo_61 : decode cX6_doesTo 61 = .ok (.getfield 43, 3) := by decide +kernel
theorem dX6_doesTo_64 : decode cX6_doesTo 64 = .ok (.iload_n 2, 1) := by decide +kernel
theorem dX6_doesTo_65 : decode cX6_doesTo 65 = .ok (.invokevirtual 174, 3) := by decide +kernel
theorem dX6_doesTo_68 : decode cX6_doesTo 68 = .ok (.iconst 1, 1) := by decide +kernel
theorem dX6_doesTo_69 : decode cX6_doesTo 69 = .ok (.ireturn, 1) := by decide +kernel
theorem dX6_doesTo_70 : decode cX6_doesTo 70 = .ok (.iload_n 1, 1) := by decide +kernel
theorem dX6_doesTo_71 : decode cX6_doesTo 71 = .ok (.iconst 2, 1) := by decide +kernel
theorem dX6_doesTo_72 : decode cX6_doesTo 72 = .ok (.if_icmp .ne 26, 3) := by decide +kernel
theorem dX6_doesTo_75 : decode cX6_doesTo 75 = .ok (.aload_n 0, 1) := by decide +kernel
theorem dX6_doesTo_76 : decode cX6_doesTo 76 = .ok (.aload_n 0, 1) := by decide +kernel
theorem dX6_doesTo_77 : decode cX6_doesTo 77 = .ok (.getfield 43, 3) := by decide +kernel
theorem dX6_doesTo_80 : decode cX6_doesTo 80 = .ok (.iload_n 2, 1) := by decide +kernel
theorem dX6_doesTo_81 : decode cX6_doesTo 81 = .ok (.invokevirtual 178, 3) := by decide +kernel
theorem dX6_doesTo_84 : decode cX6_doesTo 84 = .ok (.ifCond .eq 14, 3) := by decide +kernel
theorem dX6_doesTo_87 : decode cX6_doesTo 87 = .ok (.aload_n 0, 1) := by decide +kernel
theorem dX6_doesTo_88 : decode cX6_doesTo 88 = .ok (.aload_n 0, 1) := by decide +kernel
theorem dX6_doesTo_89 : decode cX6_doesTo 89 = .ok (.getfield 43, 3) := by decide +kernel
theorem dX6_doesTo_92 : decode cX6_doesTo 92 = .ok (.iload_n 2, 1) := by decide +kernel
theorem dX6_doesTo_93 : decode cX6_doesTo 93 = .ok (.invokevirtual 181, 3) := by decide +kernel
theorem dX6_doesTo_96 : decode cX6_doesTo 96 = .ok (.iconst 1, 1) := by decide +kernel
theorem dX6_doesTo_97 : decode cX6_doesTo 97 = .ok (.ireturn, 1) := by decide +kernel
theorem dX6_doesTo_98 : decode cX6_doesTo 98 = .ok (.iconst 0, 1) := by decide +kernel
theorem dX6_doesTo_99 : decode cX6_doesTo 99 = .ok (.ireturn, 1) := by decide +kernel
theorem dX6_does_0 : decode cX6_does 0 = .ok (.iload_n 1, 1) := by decide +kernel
theorem dX6_does_1 : decode cX6_does 1 = .ok (.bipush 100, 2) := by decide +kernel
theorem dX6_does_3 : decode cX6_does 3 = .ok (.idiv, 1) := by decide +kernel
theorem dX6_does_4 : decode cX6_does 4 = .ok (.istore_n 2, 1) := by decide +kernel
theorem dX6_does_5 : decode cX6_does 5 = .ok (.iload_n 1, 1) := by decide +kernel
theorem dX6_does_6 : decode cX6_does 6 = .ok (.bipush 10, 2) := by decide +kernel
theorem dX6_does_8 : decode cX6_does 8 = .ok (.idiv, 1) := by decide +kernel
theorem dX6_does_9 : decode cX6_does 9 = .ok (.bipush 10, 2) := by decide +kernel
theorem dX6_does_11 : decode cX6_does 11 = .ok (.irem, 1) := by decide +kernel
theorem dX6_does_12 : decode cX6_does 12 = .ok (.istore_n 3, 1) := by decide +kernel
theorem dX6_does_13 : decode cX6_does 13 = .ok (.iload_n 1, 1) := by decide +kernel
theorem dX6_does_14 : decode cX6_does 14 = .ok (.bipush 10, 2) := by decide +kernel
theorem dX6_does_16 : decode cX6_does 16 = .ok (.irem, 1) := by decide +kernel
theorem dX6_does_17 : decode cX6_does 17 = .ok (.istore 4, 2) := by decide +kernel
theorem dX6_does_19 : decode cX6_does 19 = .ok (.iload_n 1, 1) := by decide +kernel
theorem dX6_does_20 : decode cX6_does 20 = .ok (.ifCond .ne 14, 3) := by decide +kernel
theorem dX6_does_23 : decode cX6_does 23 = .ok (.aload_n 0, 1) := by decide +kernel
theorem dX6_does_24 : decode cX6_does 24 = .ok (.aload_n 0, 1) := by decide +kernel
theorem dX6_does_25 : decode cX6_does 25 = .ok (.getfield 43, 3) := by decide +kernel
theorem dX6_does_28 : decode cX6_does 28 = .ok (.invokevirtual 133, 3) := by decide +kernel
theorem dX6_does_31 : decode cX6_does 31 = .ok (.pop, 1) := by decide +kernel
theorem dX6_does_32 : decode cX6_does 32 = .ok (.iconst 1, 1) := by decide +kernel
theorem dX6_does_33 : decode cX6_does 33 = .ok (.ireturn, 1) := by decide +kernel
theorem dX6_does_34 : decode cX6_does 34 = .ok (.iload_n 2, 1) := by decide +kernel
theorem dX6_does_35 : decode cX6_does 35 = .ok (.iconst 3, 1) := by decide +kernel
theorem dX6_does_36 : decode cX6_does 36 = .ok (.if_icmp .ne 44, 3) := by decide +kernel
theorem dX6_does_39 : decode cX6_does 39 = .ok (.aload_n 0, 1) := by decide +kernel
theorem dX6_does_40 : decode cX6_does 40 = .ok (.iload_n 3, 1) := by decide +kernel
theorem dX6_does_41 : decode cX6_does 41 = .ok (.invokevirtual 147, 3) := by decide +kernel
theorem dX6_does_44 : decode cX6_does 44 = .ok (.ifCond .ne 12, 3) := by decide +kernel
theorem dX6_does_47 : decode cX6_does 47 = .ok (.iload 4, 2) := by decide +kernel
theorem dX6_does_49 : decode cX6_does 49 = .ok (.ifCond .le 7, 3) := by decide +kernel
theorem dX6_does_52 : decode cX6_does 52 = .ok (.iconst 1, 1) := by decide +kernel
theorem dX6_does_53 : decode cX6_does 53 = .ok (.goto 4, 3) := by decide +kernel
theorem dX6_does_56 : decode cX6_does 56 = .ok (.iconst 0, 1) := by decide +kernel
theorem dX6_does_57 : decode cX6_does 57 = .ok (.istore 5, 2) := by decide +kernel
theorem dX6_does_59 : decode cX6_does 59 = .ok (.iload 5, 2) := by decide +kernel
theorem dX6_does_61 : decode cX6_does 61 = .ok (.ifCond .eq 16, 3) := by decide +kernel
theorem dX6_does_64 : decode cX6_does 64 = .ok (.aload_n 0, 1) := by decide +kernel
theorem dX6_does_65 : decode cX6_does 65 = .ok (.getfield 43, 3) := by decide +kernel
theorem dX6_does_68 : decode cX6_does 68 = .ok (.iconst 1, 1) := by decide +kernel
theorem dX6_does_69 : decode cX6_does 69 = .ok (.iload_n 3, 1) := by decide +kernel
theorem dX6_does_70 : decode cX6_does 70 = .ok (.iadd, 1) := by decide +kernel
theorem dX6_does_71 : decode cX6_does 71 = .ok (.dup2, 1) := by decide +kernel
theorem dX6_does_72 : decode cX6_does 72 = .ok (.iaload, 1) := by decide +kernel
theorem dX6_does_73 : decode cX6_does 73 = .ok (.iload 4, 2) := by decide +kernel
theorem dX6_does_75 : decode cX6_does 75 = .ok (.iadd, 1) := by decide +kernel
theorem dX6_does_76 : decode cX6_does 76 = .ok (.iastore, 1) := by decide +kernel
theorem dX6_does_77 : decode cX6_does 77 = .ok (.iload 5, 2) := by decide +kernel
theorem dX6_does_79 : decode cX6_does 79 = .ok (.ireturn, 1) := by decide +kernel
theorem dX6_does_80 : decode cX6_does 80 = .ok (.iload_n 2, 1) := by decide +kernel
theorem dX6_does_81 : decode cX6_does 81 = .ok (.iconst 5, 1) := by decide +kernel
theorem dX6_does_82 : decode cX6_does 82 = .ok (.if_icmp .ne 30, 3) := by decide +kernel
theorem dX6_does_85 : decode cX6_does 85 = .ok (.aload_n 0, 1) := by decide +kernel
theorem dX6_does_86 : decode cX6_does 86 = .ok (.iload_n 3, 1) := by decide +kernel
theorem dX6_does_87 : decode cX6_does 87 = .ok (.invokevirtual 147, 3) := by decide +kernel
theorem dX6_does_90 : decode cX6_does 90 = .ok (.ifCond .ne 20, 3) := by decide +kernel
theorem dX6_does_93 : decode cX6_does 93 = .ok (.aload_n 0, 1) := by decide +kernel
theorem dX6_does_94 : decode cX6_does 94 = .ok (.getfield 43, 3) := by decide +kernel
theorem dX6_does_97 : decode cX6_does 97 = .ok (.iconst 1, 1) := by decide +kernel
theorem dX6_does_98 : decode cX6_does 98 = .ok (.iload_n 3, 1) := by decide +kernel
theorem dX6_does_99 : decode cX6_does 99 = .ok (.iadd, 1) := by decide +kernel
theorem dX6_does_100 : decode cX6_does 100 = .ok (.iaload, 1) := by decide +kernel
theorem dX6_does_101 : decode cX6_does 101 = .ok (.iload 4, 2) := by decide +kernel
theorem dX6_does_103 : decode cX6_does 103 = .ok (.if_icmp .lt 7, 3) := by decide +kernel
theorem dX6_does_106 : decode cX6_does 106 = .ok (.iconst 1, 1) := by decide +kernel
theorem dX6_does_107 : decode cX6_does 107 = .ok (.goto 4, 3) := by decide +kernel
theorem dX6_does_110 : decode cX6_does 110 = .ok (.iconst 0, 1) := by decide +kernel
theorem dX6_does_111 : decode cX6_does 111 = .ok (.ireturn, 1) := by decide +kernel
theorem dX6_does_112 : decode cX6_does 112 = .ok (.iload_n 3, 1) := by decide +kernel
theorem dX6_does_113 : decode cX6_does 113 = .ok (.ifCond .ne 17, 3) := by decide +kernel
theorem dX6_does_116 : decode cX6_does 116 = .ok (.aload_n 0, 1) := by decide +kernel
theorem dX6_does_117 : decode cX6_does 117 = .ok (.iload_n 2, 1) := by decide +kernel
theorem dX6_does_118 : decode cX6_does 118 = .ok (.iload 4, 2) := by decide +kernel
theorem dX6_does_120 : decode cX6_does 120 = .ok (.invokevirtual 216, 3) := by decide +kernel
theorem dX6_does_123 : decode cX6_does 123 = .ok (.ifCond .eq 7, 3) := by decide +kernel
theorem dX6_does_126 : decode cX6_does 126 = .ok (.iconst 1, 1) := by decide +kernel
theorem dX6_does_127 : decode cX6_does 127 = .ok (.goto 4, 3) := by decide +kernel
theorem dX6_does_130 : decode cX6_does 130 = .ok (.iconst 0, 1) := by decide +kernel
theorem dX6_does_131 : decode cX6_does 131 = .ok (.ireturn, 1) := by decide +kernel
theorem dX6_judge_0 : decode cX6_judge 0 = .ok (.aload_n 0, 1) := by decide +kernel
theorem dX6_judge_1 : decode cX6_judge 1 = .ok (.iconst 0, 1) := by decide +kernel
theorem dX6_judge_2 : decode cX6_judge 2 = .ok (.putfield 68, 3) := by decide +kernel
theorem dX6_judge_5 : decode cX6_judge 5 = .ok (.iload_n 1, 1) := by decide +kernel
theorem dX6_judge_6 : decode cX6_judge 6 = .ok (.i2l, 1) := by decide +kernel
theorem dX6_judge_7 : decode cX6_judge 7 = .ok (.lconst 1, 1) := by decide +kernel
theorem dX6_judge_8 : decode cX6_judge 8 = .ok (.ldc2_w 219, 3) := by decide +kernel
theorem dX6_judge_11 : decode cX6_judge 11 = .ok (.invokestatic 75, 3) := by decide +kernel
theorem dX6_judge_14 : decode cX6_judge 14 = .ok (.ifCond .eq 20, 3) := by decide +kernel
theorem dX6_judge_17 : decode cX6_judge 17 = .ok (.lload_n 2, 1) := by decide +kernel
theorem dX6_judge_18 : decode cX6_judge 18 = .ok (.lconst 0, 1) := by decide +kernel
theorem dX6_judge_19 : decode cX6_judge 19 = .ok (.ldc2_w 221, 3) := by decide +kernel
theorem dX6_judge_22 : decode cX6_judge 22 = .ok (.iload_n 1, 1) := by decide +kernel
theorem dX6_judge_23 : decode cX6_judge 23 = .ok (.invokestatic 223, 3) := by decide +kernel
theorem dX6_judge_26 : decode cX6_judge 26 = .ok (.lconst 1, 1) := by decide +kernel
theorem dX6_judge_27 : decode cX6_judge 27 = .ok (.lsub, 1) := by decide +kernel
theorem dX6_judge_28 : decode cX6_judge 28 = .ok (.invokestatic 75, 3) := by decide +kernel
theorem dX6_judge_31 : decode cX6_judge 31 = .ok (.ifCond .ne 6, 3) := by decide +kernel
theorem dX6_judge_34 : decode cX6_judge 34 = .ok (.bipush (-2), 2) := by decide +kernel
theorem dX6_judge_36 : decode cX6_judge 36 = .ok (.ireturn, 1) := by decide +kernel
theorem dX6_judge_37 : decode cX6_judge 37 = .ok (.aload_n 0, 1) := by decide +kernel
theorem dX6_judge_38 : decode cX6_judge 38 = .ok (.invokevirtual 188, 3) := by decide +kernel
theorem dX6_judge_41 : decode cX6_judge 41 = .ok (.iconst 0, 1) := by decide +kernel
theorem dX6_judge_42 : decode cX6_judge 42 = .ok (.istore 4, 2) := by decide +kernel
theorem dX6_judge_44 : decode cX6_judge 44 = .ok (.iload 4, 2) := by decide +kernel
theorem dX6_judge_46 : decode cX6_judge 46 = .ok (.iload_n 1, 1) := by decide +kernel
theorem dX6_judge_47 : decode cX6_judge 47 = .ok (.if_icmp .ge 38, 3) := by decide +kernel
theorem dX6_judge_50 : decode cX6_judge 50 = .ok (.aload_n 0, 1) := by decide +kernel
theorem dX6_judge_51 : decode cX6_judge 51 = .ok (.lload_n 2, 1) := by decide +kernel
theorem dX6_judge_52 : decode cX6_judge 52 = .ok (.ldc2_w 221, 3) := by decide +kernel
theorem dX6_judge_55 : decode cX6_judge 55 = .ok (.iload_n 1, 1) := by decide +kernel
theorem dX6_judge_56 : decode cX6_judge 56 = .ok (.iconst 1, 1) := by decide +kernel
theorem dX6_judge_57 : decode cX6_judge 57 = .ok (.isub, 1) := by decide +kernel
theorem dX6_judge_58 : decode cX6_judge 58 = .ok (.iload 4, 2) := by decide +kernel
theorem dX6_judge_60 : decode cX6_judge 60 = .ok (.isub, 1) := by decide +kernel
theorem dX6_judge_61 : decode cX6_judge 61 = .ok (.invokestatic 223, 3) := by decide +kernel
theorem dX6_judge_64 : decode cX6_judge 64 = .ok (.ldiv, 1) := by decide +kernel
theorem dX6_judge_65 : decode cX6_judge 65 = .ok (.ldc2_w 221, 3) := by decide +kernel
theorem dX6_judge_68 : decode cX6_judge 68 = .ok (.lrem, 1) := by decide +kernel
theorem dX6_judge_69 : decode cX6_judge 69 = .ok (.l2i, 1) := by decide +kernel
theorem dX6_judge_70 : decode cX6_judge 70 = .ok (.invokevirtual 227, 3) := by decide +kernel
theorem dX6_judge_73 : decode cX6_judge 73 = .ok (.ifCond .ne 6, 3) := by decide +kernel
theorem dX6_judge_76 : decode cX6_judge 76 = .ok (.iload 4, 2) := by decide +kernel
theorem dX6_judge_78 : decode cX6_judge 78 = .ok (.ireturn, 1) := by decide +kernel
theorem dX6_judge_79 : decode cX6_judge 79 = .ok (.iinc 4 1, 3) := by decide +kernel
theorem dX6_judge_82 : decode cX6_judge 82 = .ok (.goto (-38), 3) := by decide +kernel
theorem dX6_judge_85 : decode cX6_judge 85 = .ok (.bipush (-9), 2) := by decide +kernel
theorem dX6_judge_87 : decode cX6_judge 87 = .ok (.ireturn, 1) := by decide +kernel
theorem dX6_ways_0 : decode cX6_ways 0 = .ok (.iconst 1, 1) := by decide +kernel
theorem dX6_ways_1 : decode cX6_ways 1 = .ok (.istore_n 1, 1) := by decide +kernel
theorem dX6_ways_2 : decode cX6_ways 2 = .ok (.iconst 2, 1) := by decide +kernel
theorem dX6_ways_3 : decode cX6_ways 3 = .ok (.istore_n 2, 1) := by decide +kernel
theorem dX6_ways_4 : decode cX6_ways 4 = .ok (.iload_n 2, 1) := by decide +kernel
theorem dX6_ways_5 : decode cX6_ways 5 = .ok (.iload_n 0, 1) := by decide +kernel
theorem dX6_ways_6 : decode cX6_ways 6 = .ok (.if_icmp .gt 13, 3) := by decide +kernel
theorem dX6_ways_9 : decode cX6_ways 9 = .ok (.iload_n 1, 1) := by decide +kernel
theorem dX6_ways_10 : decode cX6_ways 10 = .ok (.iload_n 2, 1) := by decide +kernel
theorem dX6_ways_11 : decode cX6_ways 11 = .ok (.imul, 1) := by decide +kernel
theorem dX6_ways_12 : decode cX6_ways 12 = .ok (.istore_n 1, 1) := by decide +kernel
theorem dX6_ways_13 : decode cX6_ways 13 = .ok (.iinc 2 1, 3) := by decide +kernel
theorem dX6_ways_16 : decode cX6_ways 16 = .ok (.goto (-12), 3) := by decide +kernel
theorem dX6_ways_19 : decode cX6_ways 19 = .ok (.iload_n 1, 1) := by decide +kernel
theorem dX6_ways_20 : decode cX6_ways 20 = .ok (.ireturn, 1) := by decide +kernel
theorem dX6_divisor_0 : decode cX6_divisor 0 = .ok (.iload_n 0, 1) := by decide +kernel
theorem dX6_divisor_1 : decode cX6_divisor 1 = .ok (.ifCond .ge 8, 3) := by decide +kernel
theorem dX6_divisor_4 : decode cX6_divisor 4 = .ok (.iload_n 0, 1) := by decide +kernel
theorem dX6_divisor_5 : decode cX6_divisor 5 = .ok (.ineg, 1) := by decide +kernel
theorem dX6_divisor_6 : decode cX6_divisor 6 = .ok (.goto 4, 3) := by decide +kernel
theorem dX6_divisor_9 : decode cX6_divisor 9 = .ok (.iload_n 0, 1) := by decide +kernel
theorem dX6_divisor_10 : decode cX6_divisor 10 = .ok (.istore_n 2, 1) := by decide +kernel
theorem dX6_divisor_11 : decode cX6_divisor 11 = .ok (.iload_n 1, 1) := by decide +kernel
theorem dX6_divisor_12 : decode cX6_divisor 12 = .ok (.istore_n 3, 1) := by decide +kernel
theorem dX6_divisor_13 : decode cX6_divisor 13 = .ok (.iload_n 3, 1) := by decide +kernel
theorem dX6_divisor_14 : decode cX6_divisor 14 = .ok (.ifCond .eq 16, 3) := by decide +kernel
theorem dX6_divisor_17 : decode cX6_divisor 17 = .ok (.iload_n 2, 1) := by decide +kernel
theorem dX6_divisor_18 : decode cX6_divisor 18 = .ok (.iload_n 3, 1) := by decide +kernel
theorem dX6_divisor_19 : decode cX6_divisor 19 = .ok (.irem, 1) := by decide +kernel
theorem dX6_divisor_20 : decode cX6_divisor 20 = .ok (.istore 4, 2) := by decide +kernel
theorem dX6_divisor_22 : decode cX6_divisor 22 = .ok (.iload_n 3, 1) := by decide +kernel
theorem dX6_divisor_23 : decode cX6_divisor 23 = .ok (.istore_n 2, 1) := by decide +kernel
theorem dX6_divisor_24 : decode cX6_divisor 24 = .ok (.iload 4, 2) := by decide +kernel
theorem dX6_divisor_26 : decode cX6_divisor 26 = .ok (.istore_n 3, 1) := by decide +kernel
theorem dX6_divisor_27 : decode cX6_divisor 27 = .ok (.goto (-14), 3) := by decide +kernel
theorem dX6_divisor_30 : decode cX6_divisor 30 = .ok (.iload_n 2, 1) := by decide +kernel
theorem dX6_divisor_31 : decode cX6_divisor 31 = .ok (.ireturn, 1) := by decide +kernel
theorem dX6_fraction_0 : decode cX6_fraction 0 = .ok (.iload_n 0, 1) := by decide +kernel
theorem dX6_fraction_1 : decode cX6_fraction 1 = .ok (.iload_n 1, 1) := by decide +kernel
theorem dX6_fraction_2 : decode cX6_fraction 2 = .ok (.invokestatic 230, 3) := by decide +kernel
theorem dX6_fraction_5 : decode cX6_fraction 5 = .ok (.istore_n 3, 1) := by decide +kernel
theorem dX6_fraction_6 : decode cX6_fraction 6 = .ok (.iload_n 2, 1) := by decide +kernel
theorem dX6_fraction_7 : decode cX6_fraction 7 = .ok (.ifCond .eq 9, 3) := by decide +kernel
theorem dX6_fraction_10 : decode cX6_fraction 10 = .ok (.iload_n 0, 1) := by decide +kernel
theorem dX6_fraction_11 : decode cX6_fraction 11 = .ok (.iload_n 3, 1) := by decide +kernel
theorem dX6_fraction_12 : decode cX6_fraction 12 = .ok (.idiv, 1) := by decide +kernel
theorem dX6_fraction_13 : decode cX6_fraction 13 = .ok (.goto 6, 3) := by decide +kernel
theorem dX6_fraction_16 : decode cX6_fraction 16 = .ok (.iload_n 1, 1) := by decide +kernel
theorem dX6_fraction_17 : decode cX6_fraction 17 = .ok (.iload_n 3, 1) := by decide +kernel
theorem dX6_fraction_18 : decode cX6_fraction 18 = .ok (.idiv, 1) := by decide +kernel
theorem dX6_fraction_19 : decode cX6_fraction 19 = .ok (.ireturn, 1) := by decide +kernel
theorem dX6_share_0 : decode cX6_share 0 = .ok (.aload_n 0, 1) := by decide +kernel
theorem dX6_share_1 : decode cX6_share 1 = .ok (.iconst 0, 1) := by decide +kernel
theorem dX6_share_2 : decode cX6_share 2 = .ok (.putfield 68, 3) := by decide +kernel
theorem dX6_share_5 : decode cX6_share 5 = .ok (.aload_n 0, 1) := by decide +kernel
theorem dX6_share_6 : decode cX6_share 6 = .ok (.iload_n 1, 1) := by decide +kernel
theorem dX6_share_7 : decode cX6_share 7 = .ok (.invokevirtual 158, 3) := by decide +kernel
theorem dX6_share_10 : decode cX6_share 10 = .ok (.ifCond .eq 5, 3) := by decide +kernel
theorem dX6_share_13 : decode cX6_share 13 = .ok (.iconst (-1), 1) := by decide +kernel
theorem dX6_share_14 : decode cX6_share 14 = .ok (.ireturn, 1) := by decide +kernel
theorem dX6_share_15 : decode cX6_share 15 = .ok (.iconst 0, 1) := by decide +kernel
theorem dX6_share_16 : decode cX6_share 16 = .ok (.istore_n 3, 1) := by decide +kernel
theorem dX6_share_17 : decode cX6_share 17 = .ok (.iload_n 3, 1) := by decide +kernel
theorem dX6_share_18 : decode cX6_share 18 = .ok (.iconst 1, 1) := by decide +kernel
theorem dX6_share_19 : decode cX6_share 19 = .ok (.aload_n 0, 1) := by decide +kernel
theorem dX6_share_20 : decode cX6_share 20 = .ok (.getfield 79, 3) := by decide +kernel
theorem dX6_share_23 : decode cX6_share 23 = .ok (.ishl, 1) := by decide +kernel
theorem dX6_share_24 : decode cX6_share 24 = .ok (.if_icmp .ge 86, 3) := by decide +kernel
theorem dX6_share_27 : decode cX6_share 27 = .ok (.aload_n 0, 1) := by decide +kernel
theorem dX6_share_28 : decode cX6_share 28 = .ok (.invokevirtual 188, 3) := by decide +kernel
theorem dX6_share_31 : decode cX6_share 31 = .ok (.iconst 0, 1) := by decide +kernel
theorem dX6_share_32 : decode cX6_share 32 = .ok (.istore 4, 2) := by decide +kernel
theorem dX6_share_34 : decode cX6_share 34 = .ok (.iload 4, 2) := by decide +kernel
theorem dX6_share_36 : decode cX6_share 36 = .ok (.aload_n 0, 1) := by decide +kernel
theorem dX6_share_37 : decode cX6_share 37 = .ok (.getfield 79, 3) := by decide +kernel
theorem dX6_share_40 : decode cX6_share 40 = .ok (.if_icmp .ge 40, 3) := by decide +kernel
theorem dX6_share_43 : decode cX6_share 43 = .ok (.aload_n 0, 1) := by decide +kernel
theorem dX6_share_44 : decode cX6_share 44 = .ok (.getfield 43, 3) := by decide +kernel
theorem dX6_share_47 : decode cX6_share 47 = .ok (.iconst 4, 1) := by decide +kernel
theorem dX6_share_48 : decode cX6_share 48 = .ok (.iload 4, 2) := by decide +kernel
theorem dX6_share_50 : decode cX6_share 50 = .ok (.iadd, 1) := by decide +kernel
theorem dX6_share_51 : decode cX6_share 51 = .ok (.iload_n 3, 1) := by decide +kernel
theorem dX6_share_52 : decode cX6_share 52 = .ok (.iload 4, 2) := by decide +kernel
theorem dX6_share_54 : decode cX6_share 54 = .ok (.invokestatic 195, 3) := by decide +kernel
theorem dX6_share_57 : decode cX6_share 57 = .ok (.ifCond .eq 15, 3) := by decide +kernel
theorem dX6_share_60 : decode cX6_share 60 = .ok (.aload_n 0, 1) := by decide +kernel
theorem dX6_share_61 : decode cX6_share 61 = .ok (.getfield 43, 3) := by decide +kernel
theorem dX6_share_64 : decode cX6_share 64 = .ok (.iconst 4, 1) := by decide +kernel
theorem dX6_share_65 : decode cX6_share 65 = .ok (.iload 4, 2) := by decide +kernel
theorem dX6_share_67 : decode cX6_share 67 = .ok (.iadd, 1) := by decide +kernel
theorem dX6_share_68 : decode cX6_share 68 = .ok (.iaload, 1) := by decide +kernel
theorem dX6_share_69 : decode cX6_share 69 = .ok (.goto 4, 3) := by decide +kernel
theorem dX6_share_72 : decode cX6_share 72 = .ok (.iconst 2, 1) := by decide +kernel
theorem dX6_share_73 : decode cX6_share 73 = .ok (.iastore, 1) := by decide +kernel
theorem dX6_share_74 : decode cX6_share 74 = .ok (.iinc 4 1, 3) := by decide +kernel
theorem dX6_share_77 : decode cX6_share 77 = .ok (.goto (-43), 3) := by decide +kernel
theorem dX6_share_80 : decode cX6_share 80 = .ok (.aload_n 0, 1) := by decide +kernel
theorem dX6_share_81 : decode cX6_share 81 = .ok (.bipush 20, 2) := by decide +kernel
theorem dX6_share_83 : decode cX6_share 83 = .ok (.invokevirtual 191, 3) := by decide +kernel
theorem dX6_share_86 : decode cX6_share 86 = .ok (.aload_n 0, 1) := by decide +kernel
theorem dX6_share_87 : decode cX6_share 87 = .ok (.getfield 65, 3) := by decide +kernel
theorem dX6_share_90 : decode cX6_share 90 = .ok (.iload_n 3, 1) := by decide +kernel
theorem dX6_share_91 : decode cX6_share 91 = .ok (.aload_n 0, 1) := by decide +kernel
theorem dX6_share_92 : decode cX6_share 92 = .ok (.aload_n 0, 1) := by decide +kernel
theorem dX6_share_93 : decode cX6_share 93 = .ok (.getfield 43, 3) := by decide +kernel
theorem dX6_share_96 : decode cX6_share 96 = .ok (.iconst 1, 1) := by decide +kernel
theorem dX6_share_97 : decode cX6_share 97 = .ok (.invokevirtual 141, 3) := by decide +kernel
theorem dX6_share_100 : decode cX6_share 100 = .ok (.invokestatic 199, 3) := by decide +kernel
theorem dX6_share_103 : decode cX6_share 103 = .ok (.iastore, 1) := by decide +kernel
theorem dX6_share_104 : decode cX6_share 104 = .ok (.iinc 3 1, 3) := by decide +kernel
theorem dX6_share_107 : decode cX6_share 107 = .ok (.goto (-90), 3) := by decide +kernel
theorem dX6_share_110 : decode cX6_share 110 = .ok (.iconst 0, 1) := by decide +kernel
theorem dX6_share_111 : decode cX6_share 111 = .ok (.istore_n 3, 1) := by decide +kernel
theorem dX6_share_112 : decode cX6_share 112 = .ok (.iconst 0, 1) := by decide +kernel
theorem dX6_share_113 : decode cX6_share 113 = .ok (.istore 4, 2) := by decide +kernel
theorem dX6_share_115 : decode cX6_share 115 = .ok (.iload 4, 2) := by decide +kernel
theorem dX6_share_117 : decode cX6_share 117 = .ok (.iconst 1, 1) := by decide +kernel
theorem dX6_share_118 : decode cX6_share 118 = .ok (.aload_n 0, 1) := by decide +kernel
theorem dX6_share_119 : decode cX6_share 119 = .ok (.getfield 79, 3) := by decide +kernel
theorem dX6_share_122 : decode cX6_share 122 = .ok (.ishl, 1) := by decide +kernel
theorem dX6_share_123 : decode cX6_share 123 = .ok (.if_icmp .ge 66, 3) := by decide +kernel
theorem dX6_share_126 : decode cX6_share 126 = .ok (.iload 4, 2) := by decide +kernel
theorem dX6_share_128 : decode cX6_share 128 = .ok (.iload_n 1, 1) := by decide +kernel
theorem dX6_share_129 : decode cX6_share 129 = .ok (.invokestatic 195, 3) := by decide +kernel
theorem dX6_share_132 : decode cX6_share 132 = .ok (.ifCond .ne 51, 3) := by decide +kernel
theorem dX6_share_135 : decode cX6_share 135 = .ok (.iload 4, 2) := by decide +kernel
theorem dX6_share_137 : decode cX6_share 137 = .ok (.invokestatic 199, 3) := by decide +kernel
theorem dX6_share_140 : decode cX6_share 140 = .ok (.istore 5, 2) := by decide +kernel
theorem dX6_share_142 : decode cX6_share 142 = .ok (.iload_n 3, 1) := by decide +kernel
theorem dX6_share_143 : decode cX6_share 143 = .ok (.iload 5, 2) := by decide +kernel
theorem dX6_share_145 : decode cX6_share 145 = .ok (.invokestatic 233, 3) := by decide +kernel
theorem dX6_share_148 : decode cX6_share 148 = .ok (.aload_n 0, 1) := by decide +kernel
theorem dX6_share_149 : decode cX6_share 149 = .ok (.getfield 79, 3) := by decide +kernel
theorem dX6_share_152 : decode cX6_share 152 = .ok (.iconst 1, 1) := by decide +kernel
theorem dX6_share_153 : decode cX6_share 153 = .ok (.isub, 1) := by decide +kernel
theorem dX6_share_154 : decode cX6_share 154 = .ok (.iload 5, 2) := by decide +kernel
theorem dX6_share_156 : decode cX6_share 156 = .ok (.isub, 1) := by decide +kernel
theorem dX6_share_157 : decode cX6_share 157 = .ok (.invokestatic 233, 3) := by decide +kernel
theorem dX6_share_160 : decode cX6_share 160 = .ok (.imul, 1) := by decide +kernel
theorem dX6_share_161 : decode cX6_share 161 = .ok (.aload_n 0, 1) := by decide +kernel
theorem dX6_share_162 : decode cX6_share 162 = .ok (.getfield 65, 3) := by decide +kernel
theorem dX6_share_165 : decode cX6_share 165 = .ok (.iload 4, 2) := by decide +kernel
theorem dX6_share_167 : decode cX6_share 167 = .ok (.iconst 1, 1) := by decide +kernel
theorem dX6_share_168 : decode cX6_share 168 = .ok (.iload_n 1, 1) := by decide +kernel
theorem dX6_share_169 : decode cX6_share 169 = .ok (.ishl, 1) := by decide +kernel
theorem dX6_share_170 : decode cX6_share 170 = .ok (.ior, 1) := by decide +kernel
theorem dX6_share_171 : decode cX6_share 171 = .ok (.iaload, 1) := by decide +kernel
theorem dX6_share_172 : decode cX6_share 172 = .ok (.aload_n 0, 1) := by decide +kernel
theorem dX6_share_173 : decode cX6_share 173 = .ok (.getfield 65, 3) := by decide +kernel
theorem dX6_share_176 : decode cX6_share 176 = .ok (.iload 4, 2) := by decide +kernel
theorem dX6_share_178 : decode cX6_share 178 = .ok (.iaload, 1) := by decide +kernel
theorem dX6_share_179 : decode cX6_share 179 = .ok (.isub, 1) := by decide +kernel
theorem dX6_share_180 : decode cX6_share 180 = .ok (.imul, 1) := by decide +kernel
theorem dX6_share_181 : decode cX6_share 181 = .ok (.iadd, 1) := by decide +kernel
theorem dX6_share_182 : decode cX6_share 182 = .ok (.istore_n 3, 1) := by decide +kernel
theorem dX6_share_183 : decode cX6_share 183 = .ok (.iinc 4 1, 3) := by decide +kernel
theorem dX6_share_186 : decode cX6_share 186 = .ok (.goto (-71), 3) := by decide +kernel
theorem dX6_share_189 : decode cX6_share 189 = .ok (.iload_n 3, 1) := by decide +kernel
theorem dX6_share_190 : decode cX6_share 190 = .ok (.aload_n 0, 1) := by decide +kernel
theorem dX6_share_191 : decode cX6_share 191 = .ok (.getfield 79, 3) := by decide +kernel
theorem dX6_share_194 : decode cX6_share 194 = .ok (.invokestatic 233, 3) := by decide +kernel
