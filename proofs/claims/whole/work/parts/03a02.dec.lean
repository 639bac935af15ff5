theorem dX5_deed_52 : decode cX5_deed 52 = .ok (.ireturn, 1) := by decide +kernel
theorem dX5_deed_53 : decode cX5_deed 53 = .ok (.aload_n 0, 1) := by decide +kernel
theorem dX5_deed_54 : decode cX5_deed 54 = .ok (.getfield 19, 3) := by decide +kernel
theorem dX5_deed_57 : decode cX5_deed 57 = .ok (.iload_n 1, 1) := by decide +kernel
theorem dX5_deed_58 : decode cX5_deed 58 = .ok (.invokevirtual 144, 3) := by decide +kernel
theorem dX5_deed_61 : decode cX5_deed 61 = .ok (.ireturn, 1) := by decide +kernel
theorem dX5_deed_62 : decode cX5_deed 62 = .ok (.aload_n 0, 1) := by decide +kernel
theorem dX5_deed_63 : decode cX5_deed 63 = .ok (.getfield 19, 3) := by decide +kernel
theorem dX5_deed_66 : decode cX5_deed 66 = .ok (.iload_n 1, 1) := by decide +kernel
theorem dX5_deed_67 : decode cX5_deed 67 = .ok (.invokevirtual 147, 3) := by decide +kernel
theorem dX5_deed_70 : decode cX5_deed 70 = .ok (.ireturn, 1) := by decide +kernel
theorem dX5_deed_71 : decode cX5_deed 71 = .ok (.aload_n 0, 1) := by decide +kernel
theorem dX5_deed_72 : decode cX5_deed 72 = .ok (.getfield 31, 3) := by decide +kernel
theorem dX5_deed_75 : decode cX5_deed 75 = .ok (.iload_n 1, 1) := by decide +kernel
theorem dX5_deed_76 : decode cX5_deed 76 = .ok (.invokevirtual 150, 3) := by decide +kernel
theorem dX5_deed_79 : decode cX5_deed 79 = .ok (.ireturn, 1) := by decide +kernel
theorem dX5_deed_80 : decode cX5_deed 80 = .ok (.bipush (-2), 2) := by decide +kernel
theorem dX5_deed_82 : decode cX5_deed 82 = .ok (.ireturn, 1) := by decide +kernel
theorem dX5_day_0 : decode cX5_day 0 = .ok (.aload_n 0, 1) := by decide +kernel
theorem dX5_day_1 : decode cX5_day 1 = .ok (.getfield 41, 3) := by decide +kernel
theorem dX5_day_4 : decode cX5_day 4 = .ok (.aload_n 0, 1) := by decide +kernel
theorem dX5_day_5 : decode cX5_day 5 = .ok (.getfield 31, 3) := by decide +kernel
theorem dX5_day_8 : decode cX5_day 8 = .ok (.invokevirtual 153, 3) := by decide +kernel
theorem dX5_day_11 : decode cX5_day 11 = .ok (.aload_n 0, 1) := by decide +kernel
theorem dX5_day_12 : decode cX5_day 12 = .ok (.getfield 31, 3) := by decide +kernel
theorem dX5_day_15 : decode cX5_day 15 = .ok (.invokevirtual 157, 3) := by decide +kernel
theorem dX5_day_18 : decode cX5_day 18 = .ok (.ireturn, 1) := by decide +kernel
theorem dX5_pledge_0 : decode cX5_pledge 0 = .ok (.aload_n 0, 1) := by decide +kernel
theorem dX5_pledge_1 : decode cX5_pledge 1 = .ok (.getfield 19, 3) := by decide +kernel
theorem dX5_pledge_4 : decode cX5_pledge 4 = .ok (.iload_n 1, 1) := by decide +kernel
theorem dX5_pledge_5 : decode cX5_pledge 5 = .ok (.invokevirtual 117, 3) := by decide +kernel
theorem dX5_pledge_8 : decode cX5_pledge 8 = .ok (.ifCond .ne 5, 3) := by decide +kernel
theorem dX5_pledge_11 : decode cX5_pledge 11 = .ok (.iconst (-1), 1) := by decide +kernel
theorem dX5_pledge_12 : decode cX5_pledge 12 = .ok (.ireturn, 1) := by decide +kernel
theorem dX5_pledge_13 : decode cX5_pledge 13 = .ok (.aload_n 0, 1) := by decide +kernel
theorem dX5_pledge_14 : decode cX5_pledge 14 = .ok (.getfield 31, 3) := by decide +kernel
theorem dX5_pledge_17 : decode cX5_pledge 17 = .ok (.iload_n 1, 1) := by decide +kernel
theorem dX5_pledge_18 : decode cX5_pledge 18 = .ok (.invokevirtual 160, 3) := by decide +kernel
theorem dX5_pledge_21 : decode cX5_pledge 21 = .ok (.ifCond .ne 6, 3) := by decide +kernel
theorem dX5_pledge_24 : decode cX5_pledge 24 = .ok (.bipush (-3), 2) := by decide +kernel
theorem dX5_pledge_26 : decode cX5_pledge 26 = .ok (.ireturn, 1) := by decide +kernel
theorem dX5_pledge_27 : decode cX5_pledge 27 = .ok (.aload_n 0, 1) := by decide +kernel
theorem dX5_pledge_28 : decode cX5_pledge 28 = .ok (.getfield 41, 3) := by decide +kernel
theorem dX5_pledge_31 : decode cX5_pledge 31 = .ok (.aload_n 0, 1) := by decide +kernel
theorem dX5_pledge_32 : decode cX5_pledge 32 = .ok (.getfield 31, 3) := by decide +kernel
theorem dX5_pledge_35 : decode cX5_pledge 35 = .ok (.invokevirtual 153, 3) := by decide +kernel
theorem dX5_pledge_38 : decode cX5_pledge 38 = .ok (.aload_n 0, 1) := by decide +kernel
theorem dX5_pledge_39 : decode cX5_pledge 39 = .ok (.getfield 31, 3) := by decide +kernel
theorem dX5_pledge_42 : decode cX5_pledge 42 = .ok (.iload_n 1, 1) := by decide +kernel
theorem dX5_pledge_43 : decode cX5_pledge 43 = .ok (.invokevirtual 163, 3) := by decide +kernel
theorem dX5_pledge_46 : decode cX5_pledge 46 = .ok (.pop, 1) := by decide +kernel
theorem dX5_pledge_47 : decode cX5_pledge 47 = .ok (.aload_n 0, 1) := by decide +kernel
theorem dX5_pledge_48 : decode cX5_pledge 48 = .ok (.getfield 31, 3) := by decide +kernel
theorem dX5_pledge_51 : decode cX5_pledge 51 = .ok (.invokevirtual 90, 3) := by decide +kernel
theorem dX5_pledge_54 : decode cX5_pledge 54 = .ok (.ireturn, 1) := by decide +kernel
theorem dX5_redeem_0 : decode cX5_redeem 0 = .ok (.aload_n 0, 1) := by decide +kernel
theorem dX5_redeem_1 : decode cX5_redeem 1 = .ok (.getfield 19, 3) := by decide +kernel
theorem dX5_redeem_4 : decode cX5_redeem 4 = .ok (.iload_n 1, 1) := by decide +kernel
theorem dX5_redeem_5 : decode cX5_redeem 5 = .ok (.invokevirtual 117, 3) := by decide +kernel
theorem dX5_redeem_8 : decode cX5_redeem 8 = .ok (.ifCond .ne 5, 3) := by decide +kernel
theorem dX5_redeem_11 : decode cX5_redeem 11 = .ok (.iconst (-1), 1) := by decide +kernel
theorem dX5_redeem_12 : decode cX5_redeem 12 = .ok (.ireturn, 1) := by decide +kernel
theorem dX5_redeem_13 : decode cX5_redeem 13 = .ok (.aload_n 0, 1) := by decide +kernel
theorem dX5_redeem_14 : decode cX5_redeem 14 = .ok (.getfield 31, 3) := by decide +kernel
theorem dX5_redeem_17 : decode cX5_redeem 17 = .ok (.iload_n 1, 1) := by decide +kernel
theorem dX5_redeem_18 : decode cX5_redeem 18 = .ok (.invokevirtual 166, 3) := by decide +kernel
theorem dX5_redeem_21 : decode cX5_redeem 21 = .ok (.ifCond .ne 6, 3) := by decide +kernel
theorem dX5_redeem_24 : decode cX5_redeem 24 = .ok (.bipush (-3), 2) := by decide +kernel
theorem dX5_redeem_26 : decode cX5_redeem 26 = .ok (.ireturn, 1) := by decide +kernel
theorem dX5_redeem_27 : decode cX5_redeem 27 = .ok (.aload_n 0, 1) := by decide +kernel
theorem dX5_redeem_28 : decode cX5_redeem 28 = .ok (.getfield 41, 3) := by decide +kernel
theorem dX5_redeem_31 : decode cX5_redeem 31 = .ok (.aload_n 0, 1) := by decide +kernel
theorem dX5_redeem_32 : decode cX5_redeem 32 = .ok (.getfield 31, 3) := by decide +kernel
theorem dX5_redeem_35 : decode cX5_redeem 35 = .ok (.invokevirtual 153, 3) := by decide +kernel
theorem dX5_redeem_38 : decode cX5_redeem 38 = .ok (.aload_n 0, 1) := by decide +kernel
theorem dX5_redeem_39 : decode cX5_redeem 39 = .ok (.getfield 31, 3) := by decide +kernel
theorem dX5_redeem_42 : decode cX5_redeem 42 = .ok (.iload_n 1, 1) := by decide +kernel
theorem dX5_redeem_43 : decode cX5_redeem 43 = .ok (.invokevirtual 169, 3) := by decide +kernel
theorem dX5_redeem_46 : decode cX5_redeem 46 = .ok (.pop, 1) := by decide +kernel
theorem dX5_redeem_47 : decode cX5_redeem 47 = .ok (.aload_n 0, 1) := by decide +kernel
theorem dX5_redeem_48 : decode cX5_redeem 48 = .ok (.getfield 31, 3) := by decide +kernel
theorem dX5_redeem_51 : decode cX5_redeem 51 = .ok (.aload_n 0, 1) := by decide +kernel
theorem dX5_redeem_52 : decode cX5_redeem 52 = .ok (.getfield 19, 3) := by decide +kernel
theorem dX5_redeem_55 : decode cX5_redeem 55 = .ok (.iload_n 1, 1) := by decide +kernel
theorem dX5_redeem_56 : decode cX5_redeem 56 = .ok (.invokevirtual 120, 3) := by decide +kernel
theorem dX5_redeem_59 : decode cX5_redeem 59 = .ok (.invokevirtual 108, 3) := by decide +kernel
theorem dX5_redeem_62 : decode cX5_redeem 62 = .ok (.ireturn, 1) := by decide +kernel
theorem dX5_give_0 : decode cX5_give 0 = .ok (.aload_n 0, 1) := by decide +kernel
theorem dX5_give_1 : decode cX5_give 1 = .ok (.getfield 19, 3) := by decide +kernel
theorem dX5_give_4 : decode cX5_give 4 = .ok (.iload_n 1, 1) := by decide +kernel
theorem dX5_give_5 : decode cX5_give 5 = .ok (.invokevirtual 104, 3) := by decide +kernel
theorem dX5_give_8 : decode cX5_give 8 = .ok (.ifCond .ne 5, 3) := by decide +kernel
theorem dX5_give_11 : decode cX5_give 11 = .ok (.iconst (-1), 1) := by decide +kernel
theorem dX5_give_12 : decode cX5_give 12 = .ok (.ireturn, 1) := by decide +kernel
theorem dX5_give_13 : decode cX5_give 13 = .ok (.iload_n 2, 1) := by decide +kernel
theorem dX5_give_14 : decode cX5_give 14 = .ok (.iconst 1, 1) := by decide +kernel
theorem dX5_give_15 : decode cX5_give 15 = .ok (.if_icmp .lt 9, 3) := by decide +kernel
theorem dX5_give_18 : decode cX5_give 18 = .ok (.iload_n 2, 1) := by decide +kernel
theorem dX5_give_19 : decode cX5_give 19 = .ok (.bipush 9, 2) := by decide +kernel
theorem dX5_give_21 : decode cX5_give 21 = .ok (.if_icmp .le 6, 3) := by decide +kernel
theorem dX5_give_24 : decode cX5_give 24 = .ok (.bipush (-2), 2) := by decide +kernel
theorem dX5_give_26 : decode cX5_give 26 = .ok (.ireturn, 1) := by decide +kernel
theorem dX5_give_27 : decode cX5_give 27 = .ok (.aload_n 0, 1) := by decide +kernel
theorem dX5_give_28 : decode cX5_give 28 = .ok (.getfield 41, 3) := by decide +kernel
theorem dX5_give_31 : decode cX5_give 31 = .ok (.aload_n 0, 1) := by decide +kernel
theorem dX5_give_32 : decode cX5_give 32 = .ok (.getfield 31, 3) := by decide +kernel
theorem dX5_give_35 : decode cX5_give 35 = .ok (.invokevirtual 153, 3) := by decide +kernel
theorem dX5_give_38 : decode cX5_give 38 = .ok (.aload_n 0, 1) := by decide +kernel
theorem dX5_give_39 : decode cX5_give 39 = .ok (.getfield 31, 3) := by decide +kernel
theorem dX5_give_42 : decode cX5_give 42 = .ok (.iload_n 1, 1) := by decide +kernel
theorem dX5_give_43 : decode cX5_give 43 = .ok (.iload_n 2, 1) := by decide +kernel
theorem dX5_give_44 : decode cX5_give 44 = .ok (.invokevirtual 172, 3) := by decide +kernel
theorem dX5_give_47 : decode cX5_give 47 = .ok (.pop, 1) := by decide +kernel
theorem dX5_give_48 : decode cX5_give 48 = .ok (.aload_n 0, 1) := by decide +kernel
theorem dX5_give_49 : decode cX5_give 49 = .ok (.getfield 31, 3) := by decide +kernel
theorem dX5_give_52 : decode cX5_give 52 = .ok (.iload_n 1, 1) := by decide +kernel
theorem dX5_give_53 : decode cX5_give 53 = .ok (.invokevirtual 108, 3) := by decide +kernel
theorem dX5_give_56 : decode cX5_give 56 = .ok (.ireturn, 1) := by decide +kernel
theorem dX5_undo_0 : decode cX5_undo 0 = .ok (.aload_n 0, 1) := by decide +kernel
theorem dX5_undo_1 : decode cX5_undo 1 = .ok (.getfield 41, 3) := by decide +kernel
theorem dX5_undo_4 : decode cX5_undo 4 = .ok (.getfield 100, 3) := by decide +kernel
theorem dX5_undo_7 : decode cX5_undo 7 = .ok (.ifCond .ne 6, 3) := by decide +kernel
theorem dX5_undo_10 : decode cX5_undo 10 = .ok (.bipush (-3), 2) := by decide +kernel
theorem dX5_undo_12 : decode cX5_undo 12 = .ok (.ireturn, 1) := by decide +kernel
theorem dX5_undo_13 : decode cX5_undo 13 = .ok (.aload_n 0, 1) := by decide +kernel
theorem dX5_undo_14 : decode cX5_undo 14 = .ok (.getfield 41, 3) := by decide +kernel
theorem dX5_undo_17 : decode cX5_undo 17 = .ok (.aload_n 0, 1) := by decide +kernel
theorem dX5_undo_18 : decode cX5_undo 18 = .ok (.getfield 31, 3) := by decide +kernel
theorem dX5_undo_21 : decode cX5_undo 21 = .ok (.invokevirtual 176, 3) := by decide +kernel
theorem dX5_undo_24 : decode cX5_undo 24 = .ok (.aload_n 0, 1) := by decide +kernel
theorem dX5_undo_25 : decode cX5_undo 25 = .ok (.getfield 41, 3) := by decide +kernel
theorem dX5_undo_28 : decode cX5_undo 28 = .ok (.getfield 100, 3) := by decide +kernel
theorem dX5_undo_31 : decode cX5_undo 31 = .ok (.ireturn, 1) := by decide +kernel
theorem dX5_due_0 : decode cX5_due 0 = .ok (.aload_n 0, 1) := by decide +kernel
theorem dX5_due_1 : decode cX5_due 1 = .ok (.getfield 19, 3) := by decide +kernel
theorem dX5_due_4 : decode cX5_due 4 = .ok (.iload_n 1, 1) := by decide +kernel
theorem dX5_due_5 : decode cX5_due 5 = .ok (.invokevirtual 117, 3) := by decide +kernel
theorem dX5_due_8 : decode cX5_due 8 = .ok (.ifCond .ne 5, 3) := by decide +kernel
theorem dX5_due_11 : decode cX5_due 11 = .ok (.iconst (-1), 1) := by decide +kernel
theorem dX5_due_12 : decode cX5_due 12 = .ok (.ireturn, 1) := by decide +kernel
theorem dX5_due_13 : decode cX5_due 13 = .ok (.iload_n 2, 1) := by decide +kernel
theorem dX5_due_14 : decode cX5_due 14 = .ok (.invokestatic 179, 3) := by decide +kernel
theorem dX5_due_17 : decode cX5_due 17 = .ok (.ifCond .eq 6, 3) := by decide +kernel
theorem dX5_due_20 : decode cX5_due 20 = .ok (.bipush (-2), 2) := by decide +kernel
theorem dX5_due_22 : decode cX5_due 22 = .ok (.ireturn, 1) := by decide +kernel
theorem dX5_due_23 : decode cX5_due 23 = .ok (.aload_n 0, 1) := by decide +kernel
theorem dX5_due_24 : decode cX5_due 24 = .ok (.iload_n 2, 1) := by decide +kernel
theorem dX5_due_25 : decode cX5_due 25 = .ok (.invokevirtual 182, 3) := by decide +kernel
theorem dX5_due_28 : decode cX5_due 28 = .ok (.aload_n 0, 1) := by decide +kernel
theorem dX5_due_29 : decode cX5_due 29 = .ok (.getfield 35, 3) := by decide +kernel
theorem dX5_due_32 : decode cX5_due 32 = .ok (.iload_n 1, 1) := by decide +kernel
theorem dX5_due_33 : decode cX5_due 33 = .ok (.invokevirtual 135, 3) := by decide +kernel
theorem dX5_due_36 : decode cX5_due 36 = .ok (.ireturn, 1) := by decide +kernel
theorem dX5_done_0 : decode cX5_done 0 = .ok (.iload_n 1, 1) := by decide +kernel
theorem dX5_done_1 : decode cX5_done 1 = .ok (.invokestatic 179, 3) := by decide +kernel
theorem dX5_done_4 : decode cX5_done 4 = .ok (.ifCond .eq 6, 3) := by decide +kernel
theorem dX5_done_7 : decode cX5_done 7 = .ok (.bipush (-2), 2) := by decide +kernel
theorem dX5_done_9 : decode cX5_done 9 = .ok (.ireturn, 1) := by decide +kernel
theorem dX5_done_10 : decode cX5_done 10 = .ok (.aload_n 0, 1) := by decide +kernel
theorem dX5_done_11 : decode cX5_done 11 = .ok (.iload_n 1, 1) := by decide +kernel
theorem dX5_done_12 : decode cX5_done 12 = .ok (.invokevirtual 182, 3) := by decide +kernel
theorem dX5_done_15 : decode cX5_done 15 = .ok (.aload_n 0, 1) := by decide +kernel
theorem dX5_done_16 : decode cX5_done 16 = .ok (.getfield 35, 3) := by decide +kernel
theorem dX5_done_19 : decode cX5_done 19 = .ok (.iconst 1, 1) := by decide +kernel
theorem dX5_done_20 : decode cX5_done 20 = .ok (.invokevirtual 97, 3) := by decide +kernel
theorem dX5_done_23 : decode cX5_done 23 = .ok (.ireturn, 1) := by decide +kernel
theorem dX5_coins_0 : decode cX5_coins 0 = .ok (.aload_n 0, 1) := by decide +kernel
theorem dX5_coins_1 : decode cX5_coins 1 = .ok (.getfield 19, 3) := by decide +kernel
theorem dX5_coins_4 : decode cX5_coins 4 = .ok (.iload_n 1, 1) := by decide +kernel
theorem dX5_coins_5 : decode cX5_coins 5 = .ok (.invokevirtual 104, 3) := by decide +kernel
theorem dX5_coins_8 : decode cX5_coins 8 = .ok (.ifCond .ne 5, 3) := by decide +kernel
theorem dX5_coins_11 : decode cX5_coins 11 = .ok (.iconst (-1), 1) := by decide +kernel
theorem dX5_coins_12 : decode cX5_coins 12 = .ok (.ireturn, 1) := by decide +kernel
theorem dX5_coins_13 : decode cX5_coins 13 = .ok (.iload_n 2, 1) := by decide +kernel
theorem dX5_coins_14 : decode cX5_coins 14 = .ok (.invokestatic 179, 3) := by decide +kernel
theorem dX5_coins_17 : decode cX5_coins 17 = .ok (.ifCond .eq 6, 3) := by decide +kernel
theorem dX5_coins_20 : decode cX5_coins 20 = .ok (.bipush (-2), 2) := by decide +kernel
theorem dX5_coins_22 : decode cX5_coins 22 = .ok (.ireturn, 1) := by decide +kernel
theorem dX5_coins_23 : decode cX5_coins 23 = .ok (.aload_n 0, 1) := by decide +kernel
theorem dX5_coins_24 : decode cX5_coins 24 = .ok (.iload_n 2, 1) := by decide +kernel
theorem dX5_coins_25 : decode cX5_coins 25 = .ok (.invokevirtual 182, 3) := by decide +kernel
theorem dX5_coins_28 : decode cX5_coins 28 = .ok (.aload_n 0, 1) := by decide +kernel
theorem dX5_coins_29 : decode cX5_coins 29 = .ok (.getfield 35, 3) := by decide +kernel
theorem dX5_coins_32 : decode cX5_coins 32 = .ok (.iload_n 1, 1) := by decide +kernel
theorem dX5_coins_33 : decode cX5_coins 33 = .ok (.invokevirtual 108, 3) := by decide +kernel
theorem dX5_coins_36 : decode cX5_coins 36 = .ok (.ireturn, 1) := by decide +kernel
theorem dX5_raise_0 : decode cX5_raise 0 = .ok (.aload_n 0, 1) := by decide +kernel
theorem dX5_raise_1 : decode cX5_raise 1 = .ok (.getfield 19, 3) := by decide +kernel
theorem dX5_raise_4 : decode cX5_raise 4 = .ok (.iload_n 1, 1) := by decide +kernel
theorem dX5_raise_5 : decode cX5_raise 5 = .ok (.invokevirtual 104, 3) := by decide +kernel
theorem dX5_raise_8 : decode cX5_raise 8 = .ok (.ifCond .ne 5, 3) := by decide +kernel
theorem dX5_raise_11 : decode cX5_raise 11 = .ok (.iconst (-1), 1) := by decide +kernel
theorem dX5_raise_12 : decode cX5_raise 12 = .ok (.ireturn, 1) := by decide +kernel
theorem dX5_raise_13 : decode cX5_raise 13 = .ok (.iload_n 2, 1) := by decide +kernel
theorem dX5_raise_14 : decode cX5_raise 14 = .ok (.ifCond .lt 16, 3) := by decide +kernel
theorem dX5_raise_17 : decode cX5_raise 17 = .ok (.iload_n 2, 1) := by decide +kernel
theorem dX5_raise_18 : decode cX5_raise 18 = .ok (.bipush 60, 2) := by decide +kernel
theorem dX5_raise_20 : decode cX5_raise 20 = .ok (.if_icmp .gt 10, 3) := by decide +kernel
theorem dX5_raise_23 : decode cX5_raise 23 = .ok (.iload_n 3, 1) := by decide +kernel
theorem dX5_raise_24 : decode cX5_raise 24 = .ok (.invokestatic 185, 3) := by decide +kernel
theorem dX5_raise_27 : decode cX5_raise 27 = .ok (.ifCond .eq 6, 3) := by decide +kernel
theorem dX5_raise_30 : decode cX5_raise 30 = .ok (.bipush (-2), 2) := by decide +kernel
theorem dX5_raise_32 : decode cX5_raise 32 = .ok (.ireturn, 1) := by decide +kernel
theorem dX5_raise_33 : decode cX5_raise 33 = .ok (.bipush (-9), 2) := by decide +kernel
theorem dX5_raise_35 : decode cX5_raise 35 = .ok (.istore 4, 2) := by decide +kernel
theorem dX5_raise_37 : decode cX5_raise 37 = .ok (.bipush (-9), 2) := by decide +kernel
theorem dX5_raise_39 : decode cX5_raise 39 = .ok (.istore 5, 2) := by decide +kernel
theorem dX5_raise_41 : decode cX5_raise 41 = .ok (.iconst 0, 1) := by decide +kernel
theorem dX5_raise_42 : decode cX5_raise 42 = .ok (.istore 6, 2) := by decide +kernel
theorem dX5_raise_44 : decode cX5_raise 44 = .ok (.iload 6, 2) := by decide +kernel
theorem dX5_raise_46 : decode cX5_raise 46 = .ok (.bipush 32, 2) := by decide +kernel
theorem dX5_raise_48 : decode cX5_raise 48 = .ok (.if_icmp .ge 73, 3) := by decide +kernel
theorem dX5_raise_51 : decode cX5_raise 51 = .ok (.aload_n 0, 1) := by decide +kernel
theorem dX5_raise_52 : decode cX5_raise 52 = .ok (.iload 6, 2) := by decide +kernel
theorem dX5_raise_54 : decode cX5_raise 54 = .ok (.iload_n 1, 1) := by decide +kernel
theorem dX5_raise_55 : decode cX5_raise 55 = .ok (.iload_n 2, 1) := by decide +kernel
theorem dX5_raise_56 : decode cX5_raise 56 = .ok (.invokevirtual 188, 3) := by decide +kernel
theorem dX5_raise_59 : decode cX5_raise 59 = .ok (.istore 7, 2) := by decide +kernel
theorem dX5_raise_61 : decode cX5_raise 61 = .ok (.iload 7, 2) := by decide +kernel
theorem dX5_raise_63 : decode cX5_raise 63 = .ok (.iload 5, 2) := by decide +kernel
theorem dX5_raise_65 : decode cX5_raise 65 = .ok (.if_icmp .ne 20, 3) := by decide +kernel
theorem dX5_raise_68 : decode cX5_raise 68 = .ok (.iload 6, 2) := by decide +kernel
theorem dX5_raise_70 : decode cX5_raise 70 = .ok (.invokestatic 192, 3) := by decide +kernel
theorem dX5_raise_73 : decode cX5_raise 73 = .ok (.iload 4, 2) := by decide +kernel
theorem dX5_raise_75 : decode cX5_raise 75 = .ok (.invokestatic 192, 3) := by decide +kernel
theorem dX5_raise_78 : decode cX5_raise 78 = .ok (.if_icmp .ge 7, 3) := by decide +kernel
theorem dX5_raise_81 : decode cX5_raise 81 = .ok (.iconst 1, 1) := by decide +kernel
theorem dX5_raise_82 : decode cX5_raise 82 = .ok (.goto 4, 3) := by decide +kernel
theorem dX5_raise_85 : decode cX5_raise 85 = .ok (.iconst 0, 1) := by decide +kernel
theorem dX5_raise_86 : decode cX5_raise 86 = .ok (.istore 8, 2) := by decide +kernel
theorem dX5_raise_88 : decode cX5_raise 88 = .ok (.iload 7, 2) := by decide +kernel
theorem dX5_raise_90 : decode cX5_raise 90 = .ok (.bipush (-9), 2) := by decide +kernel
theorem dX5_raise_92 : decode cX5_raise 92 = .ok (.if_icmp .eq 23, 3) := by decide +kernel
theorem dX5_raise_95 : decode cX5_raise 95 = .ok (.iload 7, 2) := by decide +kernel
theorem dX5_raise_97 : decode cX5_raise 97 = .ok (.iload 5, 2) := by decide +kernel
theorem dX5_raise_99 : decode cX5_raise 99 = .ok (.if_icmp .gt 8, 3) := by decide +kernel
theorem dX5_raise_102 : decode cX5_raise 102 = .ok (.iload 8, 2) := by decide +kernel
theorem dX5_raise_104 : decode cX5_raise 104 = .ok (.ifCond .eq 11, 3) := by decide +kernel
theorem dX5_raise_107 : decode cX5_raise 107 = .ok (.iload 6, 2) := by decide +kernel
theorem dX5_raise_109 : decode cX5_raise 109 = .ok (.istore 4, 2) := by decide +kernel
theorem dX5_raise_111 : decode cX5_raise 111 = .ok (.iload 7, 2) := by decide +kernel
theorem dX5_raise_113 : decode cX5_raise 113 = .ok (.istore 5, 2) := by decide +kernel
theorem dX5_raise_115 : decode cX5_raise 115 = .ok (.iinc 6 1, 3) := by decide +kernel
theorem dX5_raise_118 : decode cX5_raise 118 = .ok (.goto (-74), 3) := by decide +kernel
theorem dX5_raise_121 : decode cX5_raise 121 = .ok (.iload_n 3, 1) := by decide +kernel
theorem dX5_raise_122 : decode cX5_raise 122 = .ok (.ifCond .ne 8, 3) := by decide +kernel
theorem dX5_raise_125 : decode cX5_raise 125 = .ok (.iload 4, 2) := by decide +kernel
theorem dX5_raise_127 : decode cX5_raise 127 = .ok (.goto 5, 3) := by decide +kernel
theorem dX5_raise_130 : decode cX5_raise 130 = .ok (.iload 5, 2) := by decide +kernel
theorem dX5_raise_132 : decode cX5_raise 132 = .ok (.ireturn, 1) := by decide +kernel
theorem dX5_back_0 : decode cX5_back 0 = .ok (.aload_n 0, 1) := by decide +kernel
theorem dX5_back_1 : decode cX5_back 1 = .ok (.getfield 19, 3) := by decide +kernel
theorem dX5_back_4 : decode cX5_back 4 = .ok (.iload_n 1, 1) := by decide +kernel
theorem dX5_back_5 : decode cX5_back 5 = .ok (.invokevirtual 117, 3) := by decide +kernel
theorem dX5_back_8 : decode cX5_back 8 = .ok (.ifCond .ne 5, 3) := by decide +kernel
theorem dX5_back_11 : decode cX5_back 11 = .ok (.iconst (-1), 1) := by decide +kernel
theorem dX5_back_12 : decode cX5_back 12 = .ok (.ireturn, 1) := by decide +kernel
theorem dX5_back_13 : decode cX5_back 13 = .ok (.aload_n 0, 1) := by decide +kernel
theorem dX5_back_14 : decode cX5_back 14 = .ok (.getfield 31, 3) := by decide +kernel
theorem dX5_back_17 : decode cX5_back 17 = .ok (.iload_n 1, 1) := by decide +kernel
theorem dX5_back_18 : decode cX5_back 18 = .ok (.invokevirtual 129, 3) := by decide +kernel
theorem dX5_back_21 : decode cX5_back 21 = .ok (.iconst 1, 1) := by decide +kernel
theorem dX5_back_22 : decode cX5_back 22 = .ok (.if_icmp .eq 6, 3) := by decide +kernel
theorem dX5_back_25 : decode cX5_back 25 = .ok (.bipush (-3), 2) := by decide +kernel
theorem dX5_back_27 : decode cX5_back 27 = .ok (.ireturn, 1) := by decide +kernel
theorem dX5_back_28 : decode cX5_back 28 = .ok (.aload_n 0, 1) := by decide +kernel
theorem dX5_back_29 : decode cX5_back 29 = .ok (.getfield 35, 3) := by decide +kernel
theorem dX5_back_32 : decode cX5_back 32 = .ok (.aload_n 0, 1) := by decide +kernel
theorem dX5_back_33 : decode cX5_back 33 = .ok (.getfield 31, 3) := by decide +kernel
theorem dX5_back_36 : decode cX5_back 36 = .ok (.invokevirtual 197, 3) := by decide +kernel
theorem dX5_back_39 : decode cX5_back 39 = .ok (.iconst 0, 1) := by decide +kernel
theorem dX5_back_40 : decode cX5_back 40 = .ok (.istore_n 2, 1) := by decide +kernel
theorem dX5_back_41 : decode cX5_back 41 = .ok (.iload_n 2, 1) := by decide +kernel
theorem dX5_back_42 : decode cX5_back 42 = .ok (.bipush 20, 2) := by decide +kernel
theorem dX5_back_44 : decode cX5_back 44 = .ok (.if_icmp .gt 30, 3) := by decide +kernel
theorem dX5_back_47 : decode cX5_back 47 = .ok (.aload_n 0, 1) := by decide +kernel
theorem dX5_back_48 : decode cX5_back 48 = .ok (.getfield 35, 3) := by decide +kernel
theorem dX5_back_51 : decode cX5_back 51 = .ok (.iload_n 1, 1) := by decide +kernel
theorem dX5_back_52 : decode cX5_back 52 = .ok (.invokevirtual 166, 3) := by decide +kernel
theorem dX5_back_55 : decode cX5_back 55 = .ok (.ifCond .eq 5, 3) := by decide +kernel
theorem dX5_back_58 : decode cX5_back 58 = .ok (.iload_n 2, 1) := by decide +kernel
theorem dX5_back_59 : decode cX5_back 59 = .ok (.ireturn, 1) := by decide +kernel
theorem dX5_back_60 : decode cX5_back 60 = .ok (.aload_n 0, 1) := by decide +kernel
theorem dX5_back_61 : decode cX5_back 61 = .ok (.getfield 35, 3) := by decide +kernel
theorem dX5_back_64 : decode cX5_back 64 = .ok (.invokevirtual 157, 3) := by decide +kernel
theorem dX5_back_67 : decode cX5_back 67 = .ok (.pop, 1) := by decide +kernel
theorem dX5_back_68 : decode cX5_back 68 = .ok (.iinc 2 1, 3) := by decide +kernel
theorem dX5_back_71 : decode cX5_back 71 = .ok (.goto (-30), 3) := by decide +kernel
theorem dX5_back_74 : decode cX5_back 74 = .ok (.bipush (-9), 2) := by decide +kernel
theorem dX5_back_76 : decode cX5_back 76 = .ok (.ireturn, 1) := by decide +kernel
theorem dX5_judge_0 : decode cX5_judge 0 = .ok (.iload_n 1, 1) := by decide +kernel
theorem dX5_judge_1 : decode cX5_judge 1 = .ok (.iconst 1, 1) := by decide +kernel
theorem dX5_judge_2 : decode cX5_judge 2 = .ok (.if_icmp .lt 8, 3) := by decide +kernel
theorem dX5_judge_5 : decode cX5_judge 5 = .ok (.iload_n 1, 1) := by decide +kernel
theorem dX5_judge_6 : decode cX5_judge 6 = .ok (.iconst 4, 1) := by decide +kernel
theorem dX5_judge_7 : decode cX5_judge 7 = .ok (.if_icmp .le 6, 3) := by decide +kernel
theorem dX5_judge_10 : decode cX5_judge 10 = .ok (.bipush (-2), 2) := by decide +kernel
theorem dX5_judge_12 : decode cX5_judge 12 = .ok (.ireturn, 1) := by decide +kernel
theorem dX5_judge_13 : decode cX5_judge 13 = .ok (.lconst 1, 1) := by decide +kernel
theorem dX5_judge_14 : decode cX5_judge 14 = .ok (.lstore 4, 2) := by decide +kernel
theorem dX5_judge_16 : decode cX5_judge 16 = .ok (.iconst 0, 1) := by decide +kernel
theorem dX5_judge_17 : decode cX5_judge 17 = .ok (.istore 6, 2) := by decide +kernel
theorem dX5_judge_19 : decode cX5_judge 19 = .ok (.iload 6, 2) := by decide +kernel
theorem dX5_judge_21 : decode cX5_judge 21 = .ok (.iload_n 1, 1) := by decide +kernel
theorem dX5_judge_22 : decode cX5_judge 22 = .ok (.if_icmp .ge 17, 3) := by decide +kernel
theorem dX5_judge_25 : decode cX5_judge 25 = .ok (.lload 4, 2) := by decide +kernel
theorem dX5_judge_27 : decode cX5_judge 27 = .ok (.ldc2_w 200, 3) := by decide +kernel
theorem dX5_judge_30 : decode cX5_judge 30 = .ok (.lmul, 1) := by decide +kernel
theorem dX5_judge_31 : decode cX5_judge 31 = .ok (.lstore 4, 2) := by decide +kernel
theorem dX5_judge_33 : decode cX5_judge 33 = .ok (.iinc 6 1, 3) := by decide +kernel
theorem dX5_judge_36 : decode cX5_judge 36 = .ok (.goto (-17), 3) := by decide +kernel
theorem dX5_judge_39 : decode cX5_judge 39 = .ok (.lload_n 2, 1) := by decide +kernel
theorem dX5_judge_40 : decode cX5_judge 40 = .ok (.lconst 0, 1) := by decide +kernel
theorem dX5_judge_41 : decode cX5_judge 41 = .ok (.lcmp, 1) := by decide +kernel
theorem dX5_judge_42 : decode cX5_judge 42 = .ok (.ifCond .lt 10, 3) := by decide +kernel
theorem dX5_judge_45 : decode cX5_judge 45 = .ok (.lload_n 2, 1) := by decide +kernel
theorem dX5_judge_46 : decode cX5_judge 46 = .ok (.lload 4, 2) := by decide +kernel
theorem dX5_judge_48 : decode cX5_judge 48 = .ok (.lcmp, 1) := by decide +kernel
theorem dX5_judge_49 : decode cX5_judge 49 = .ok (.ifCond .lt 6, 3) := by decide +kernel
theorem dX5_judge_52 : decode cX5_judge 52 = .ok (.bipush (-2), 2) := by decide +kernel
theorem dX5_judge_54 : decode cX5_judge 54 = .ok (.ireturn, 1) := by decide +kernel
theorem dX5_judge_55 : decode cX5_judge 55 = .ok (.aload_n 0, 1) := by decide +kernel
theorem dX5_judge_56 : decode cX5_judge 56 = .ok (.getfield 35, 3) := by decide +kernel
theorem dX5_judge_59 : decode cX5_judge 59 = .ok (.aload_n 0, 1) := by decide +kernel
theorem dX5_judge_60 : decode cX5_judge 60 = .ok (.getfield 31, 3) := by decide +kernel
theorem dX5_judge_63 : decode cX5_judge 63 = .ok (.invokevirtual 197, 3) := by decide +kernel
theorem dX5_judge_66 : decode cX5_judge 66 = .ok (.lload 4, 2) := by decide +kernel
theorem dX5_judge_68 : decode cX5_judge 68 = .ok (.ldc2_w 200, 3) := by decide +kernel
theorem dX5_judge_71 : decode cX5_judge 71 = .ok (.ldiv, 1) := by decide +kernel
theorem dX5_judge_72 : decode cX5_judge 72 = .ok (.lstore 6, 2) := by decide +kernel
theorem dX5_judge_74 : decode cX5_judge 74 = .ok (.iconst 0, 1) := by decide +kernel
theorem dX5_judge_75 : decode cX5_judge 75 = .ok (.istore 8, 2) := by decide +kernel
theorem dX5_judge_77 : decode cX5_judge 77 = .ok (.iload 8, 2) := by decide +kernel
theorem dX5_judge_79 : decode cX5_judge 79 = .ok (.iload_n 1, 1) := by decide +kernel
theorem dX5_judge_80 : decode cX5_judge 80 = .ok (.if_icmp .ge 66, 3) := by decide +kernel
theorem dX5_judge_83 : decode cX5_judge 83 = .ok (.lload 6, 2) := by decide +kernel
theorem dX5_judge_85 : decode cX5_judge 85 = .ok (.lconst 0, 1) := by decide +kernel
theorem dX5_judge_86 : decode cX5_judge 86 = .ok (.lcmp, 1) := by decide +kernel
theorem dX5_judge_87 : decode cX5_judge 87 = .ok (.ifCond .le 59, 3) := by decide +kernel
theorem dX5_judge_90 : decode cX5_judge 90 = .ok (.lload_n 2, 1) := by decide +kernel
theorem dX5_judge_91 : decode cX5_judge 91 = .ok (.lload 6, 2) := by decide +kernel
theorem dX5_judge_93 : decode cX5_judge 93 = .ok (.ldiv, 1) := by decide +kernel
theorem dX5_judge_94 : decode cX5_judge 94 = .ok (.ldc2_w 200, 3) := by decide +kernel
theorem dX5_judge_97 : decode cX5_judge 97 = .ok (.lrem, 1) := by decide +kernel
theorem dX5_judge_98 : decode cX5_judge 98 = .ok (.l2i, 1) := by decide +kernel
theorem dX5_judge_99 : decode cX5_judge 99 = .ok (.istore 9, 2) := by decide +kernel
theorem dX5_judge_101 : decode cX5_judge 101 = .ok (.aload_n 0, 1) := by decide +kernel
theorem dX5_judge_102 : decode cX5_judge 102 = .ok (.getfield 35, 3) := by decide +kernel
theorem dX5_judge_105 : decode cX5_judge 105 = .ok (.iload 9, 2) := by decide +kernel
theorem dX5_judge_107 : decode cX5_judge 107 = .ok (.bipush 100, 2) := by decide +kernel
theorem dX5_judge_109 : decode cX5_judge 109 = .ok (.idiv, 1) := by decide +kernel
theorem dX5_judge_110 : decode cX5_judge 110 = .ok (.iload 9, 2) := by decide +kernel
theorem dX5_judge_112 : decode cX5_judge 112 = .ok (.bipush 10, 2) := by decide +kernel
theorem dX5_judge_114 : decode cX5_judge 114 = .ok (.idiv, 1) := by decide +kernel
theorem dX5_judge_115 : decode cX5_judge 115 = .ok (.bipush 10, 2) := by decide +kernel
theorem dX5_judge_117 : decode cX5_judge 117 = .ok (.irem, 1) := by decide +kernel
theorem dX5_judge_118 : decode cX5_judge 118 = .ok (.iload 9, 2) := by decide +kernel
theorem dX5_judge_120 : decode cX5_judge 120 = .ok (.bipush 10, 2) := by decide +kernel
theorem dX5_judge_122 : decode cX5_judge 122 = .ok (.irem, 1) := by decide +kernel
theorem dX5_judge_123 : decode cX5_judge 123 = .ok (.invokevirtual 202, 3) := by decide +kernel
theorem dX5_judge_126 : decode cX5_judge 126 = .ok (.ifCond .ne 6, 3) := by decide +kernel
theorem dX5_judge_129 : decode cX5_judge 129 = .ok (.iload 8, 2) := by decide +kernel
theorem dX5_judge_131 : decode cX5_judge 131 = .ok (.ireturn, 1) := by decide +kernel
theorem dX5_judge_132 : decode cX5_judge 132 = .ok (.lload 6, 2) := by decide +kernel
theorem dX5_judge_134 : decode cX5_judge 134 = .ok (.ldc2_w 200, 3) := by decide +kernel
theorem dX5_judge_137 : decode cX5_judge 137 = .ok (.ldiv, 1) := by decide +kernel
theorem dX5_judge_138 : decode cX5_judge 138 = .ok (.lstore 6, 2) := by decide +kernel
theorem dX5_judge_140 : decode cX5_judge 140 = .ok (.iinc 8 1, 3) := by decide +kernel
theorem dX5_judge_143 : decode cX5_judge 143 = .ok (.goto (-66), 3) := by decide +kernel
theorem dX5_judge_146 : decode cX5_judge 146 = .ok (.bipush (-9), 2) := by decide +kernel
theorem dX5_judge_148 : decode cX5_judge 148 = .ok (.ireturn, 1) := by decide +kernel
theorem dX5_share_0 : decode cX5_share 0 = .ok (.aload_n 0, 1) := by decide +kernel
theorem dX5_share_1 : decode cX5_share 1 = .ok (.getfield 19, 3) := by decide +kernel
theorem dX5_share_4 : decode cX5_share 4 = .ok (.iload_n 1, 1) := by decide +kernel
theorem dX5_share_5 : decode cX5_share 5 = .ok (.invokevirtual 117, 3) := by decide +kernel
theorem dX5_share_8 : decode cX5_share 8 = .ok (.ifCond .ne 5, 3) := by decide +kernel
theorem dX5_share_11 : decode cX5_share 11 = .ok (.iconst (-1), 1) := by decide +kernel
theorem dX5_share_12 : decode cX5_share 12 = .ok (.ireturn, 1) := by decide +kernel
theorem dX5_share_13 : decode cX5_share 13 = .ok (.aload_n 0, 1) := by decide +kernel
theorem dX5_share_14 : decode cX5_share 14 = .ok (.getfield 35, 3) := by decide +kernel
theorem dX5_share_17 : decode cX5_share 17 = .ok (.aload_n 0, 1) := by decide +kernel
theorem dX5_share_18 : decode cX5_share 18 = .ok (.getfield 31, 3) := by decide +kernel
theorem dX5_share_21 : decode cX5_share 21 = .ok (.invokevirtual 197, 3) := by decide +kernel
theorem dX5_share_24 : decode cX5_share 24 = .ok (.aload_n 0, 1) := by decide +kernel
theorem dX5_share_25 : decode cX5_share 25 = .ok (.getfield 35, 3) := by decide +kernel
theorem dX5_share_28 : decode cX5_share 28 = .ok (.bipush (-9), 2) := by decide +kernel
theorem dX5_share_30 : decode cX5_share 30 = .ok (.invokevirtual 206, 3) := by decide +kernel
theorem dX5_share_33 : decode cX5_share 33 = .ok (.aload_n 0, 1) := by decide +kernel
theorem dX5_share_34 : decode cX5_share 34 = .ok (.getfield 35, 3) := by decide +kernel
theorem dX5_share_37 : decode cX5_share 37 = .ok (.invokevirtual 209, 3) := by decide +kernel
theorem dX5_share_40 : decode cX5_share 40 = .ok (.istore_n 3, 1) := by decide +kernel
theorem dX5_share_41 : decode cX5_share 41 = .ok (.aload_n 0, 1) := by decide +kernel
theorem dX5_share_42 : decode cX5_share 42 = .ok (.getfield 35, 3) := by decide +kernel
theorem dX5_share_45 : decode cX5_share 45 = .ok (.aload_n 0, 1) := by decide +kernel
theorem dX5_share_46 : decode cX5_share 46 = .ok (.getfield 31, 3) := by decide +kernel
theorem dX5_share_49 : decode cX5_share 49 = .ok (.invokevirtual 197, 3) := by decide +kernel
theorem dX5_share_52 : decode cX5_share 52 = .ok (.aload_n 0, 1) := by decide +kernel
theorem dX5_share_53 : decode cX5_share 53 = .ok (.getfield 35, 3) := by decide +kernel
theorem dX5_share_56 : decode cX5_share 56 = .ok (.iload_n 1, 1) := by decide +kernel
theorem dX5_share_57 : decode cX5_share 57 = .ok (.invokevirtual 206, 3) := by decide +kernel
theorem dX5_share_60 : decode cX5_share 60 = .ok (.aload_n 0, 1) := by decide +kernel
theorem dX5_share_61 : decode cX5_share 61 = .ok (.getfield 35, 3) := by decide +kernel
theorem dX5_share_64 : decode cX5_share 64 = .ok (.invokevirtual 209, 3) := by decide +kernel
theorem dX5_share_67 : decode cX5_share 67 = .ok (.invokestatic 192, 3) := by decide +kernel
theorem dX5_share_70 : decode cX5_share 70 = .ok (.iload_n 3, 1) := by decide +kernel
theorem dX5_share_71 : decode cX5_share 71 = .ok (.invokestatic 192, 3) := by decide +kernel
theorem dX5_share_74 : decode cX5_share 74 = .ok (.isub, 1) := by decide +kernel
theorem dX5_share_75 : decode cX5_share 75 = .ok (.istore 4, 2) := by decide +kernel
theorem dX5_share_77 : decode cX5_share 77 = .ok (.iload 4, 2) := by decide +kernel
theorem dX5_share_79 : decode cX5_share 79 = .ok (.iconst 1, 1) := by decide +kernel
theorem dX5_share_80 : decode cX5_share 80 = .ok (.iload_n 2, 1) := by decide +kernel
theorem dX5_share_81 : decode cX5_share 81 = .ok (.invokestatic 212, 3) := by decide +kernel
theorem dX5_share_84 : decode cX5_share 84 = .ok (.ireturn, 1) := by decide +kernel
theorem dX5_ask_0 : decode cX5_ask 0 = .ok (.iload_n 1, 1) := by decide +kernel
theorem dX5_ask_1 : decode cX5_ask 1 = .ok (.ifCond .lt 19, 3) := by decide +kernel
theorem dX5_ask_4 : decode cX5_ask 4 = .ok (.iload_n 1, 1) := by decide +kernel
theorem dX5_ask_5 : decode cX5_ask 5 = .ok (.bipush 8, 2) := by decide +kernel
theorem dX5_ask_7 : decode cX5_ask 7 = .ok (.if_icmp .gt 13, 3) := by decide +kernel
theorem dX5_ask_10 : decode cX5_ask 10 = .ok (.iload_n 2, 1) := by decide +kernel
theorem dX5_ask_11 : decode cX5_ask 11 = .ok (.ifCond .lt 9, 3) := by decide +kernel
theorem dX5_ask_14 : decode cX5_ask 14 = .ok (.iload_n 2, 1) := by decide +kernel
theorem dX5_ask_15 : decode cX5_ask 15 = .ok (.bipush 30, 2) := by decide +kernel
theorem dX5_ask_17 : decode cX5_ask 17 = .ok (.if_icmp .le 6, 3) := by decide +kernel
theorem dX5_ask_20 : decode cX5_ask 20 = .ok (.bipush (-2), 2) := by decide +kernel
theorem dX5_ask_22 : decode cX5_ask 22 = .ok (.ireturn, 1) := by decide +kernel
theorem dX5_ask_23 : decode cX5_ask 23 = .ok (.aload_n 0, 1) := by decide +kernel
theorem dX5_ask_24 : decode cX5_ask 24 = .ok (.getfield 48, 3) := by decide +kernel
theorem dX5_ask_27 : decode cX5_ask 27 = .ok (.getfield 103, 3) := by decide +kernel
theorem dX5_ask_30 : decode cX5_ask 30 = .ok (.bipush 6, 2) := by decide +kernel
theorem dX5_ask_32 : decode cX5_ask 32 = .ok (.if_icmp .lt 6, 3) := by decide +kernel
theorem dX5_ask_35 : decode cX5_ask 35 = .ok (.bipush (-4), 2) := by decide +kernel
theorem dX5_ask_37 : decode cX5_ask 37 = .ok (.ireturn, 1) := by decide +kernel
theorem dX5_ask_38 : decode cX5_ask 38 = .ok (.aload_n 0, 1) := by decide +kernel
theorem dX5_ask_39 : decode cX5_ask 39 = .ok (.getfield 48, 3) := by decide +kernel
theorem dX5_ask_42 : decode cX5_ask 42 = .ok (.iload_n 1, 1) := by decide +kernel
theorem dX5_ask_43 : decode cX5_ask 43 = .ok (.iload_n 2, 1) := by decide +kernel
theorem dX5_ask_44 : decode cX5_ask 44 = .ok (.invokevirtual 216, 3) := by decide +kernel
theorem dX5_ask_47 : decode cX5_ask 47 = .ok (.aload_n 0, 1) := by decide +kernel
theorem dX5_ask_48 : decode cX5_ask 48 = .ok (.getfield 48, 3) := by decide +kernel
theorem dX5_ask_51 : decode cX5_ask 51 = .ok (.getfield 103, 3) := by decide +kernel
theorem dX5_ask_54 : decode cX5_ask 54 = .ok (.ireturn, 1) := by decide +kernel
theorem dX5_unask_0 : decode cX5_unask 0 = .ok (.aload_n 0, 1) := by decide +kernel
theorem dX5_unask_1 : decode cX5_unask 1 = .ok (.getfield 48, 3) := by decide +kernel
theorem dX5_unask_4 : decode cX5_unask 4 = .ok (.getfield 103, 3) := by decide +kernel
theorem dX5_unask_7 : decode cX5_unask 7 = .ok (.istore_n 1, 1) := by decide +kernel
theorem dX5_unask_8 : decode cX5_unask 8 = .ok (.aload_n 0, 1) := by decide +kernel
theorem dX5_unask_9 : decode cX5_unask 9 = .ok (.getfield 48, 3) := by decide +kernel
theorem dX5_unask_12 : decode cX5_unask 12 = .ok (.iconst 0, 1) := by decide +kernel
theorem dX5_unask_13 : decode cX5_unask 13 = .ok (.putfield 103, 3) := by decide +kernel
theorem dX5_unask_16 : decode cX5_unask 16 = .ok (.iload_n 1, 1) := by decide +kernel
theorem dX5_unask_17 : decode cX5_unask 17 = .ok (.ireturn, 1) := by decide +kernel
theorem dX5_tickets_0 : decode cX5_tickets 0 = .ok (.iload_n 1, 1) := by decide +kernel
theorem dX5_tickets_1 : decode cX5_tickets 1 = .ok (.invokestatic 185, 3) := by decide +kernel
theorem dX5_tickets_4 : decode cX5_tickets 4 = .ok (.ifCond .eq 6, 3) := by decide +kernel
theorem dX5_tickets_7 : decode cX5_tickets 7 = .ok (.bipush (-2), 2) := by decide +kernel
theorem dX5_tickets_9 : decode cX5_tickets 9 = .ok (.ireturn, 1) := by decide +kernel
theorem dX5_tickets_10 : decode cX5_tickets 10 = .ok (.iconst 0, 1) := by decide +kernel
theorem dX5_tickets_11 : decode cX5_tickets 11 = .ok (.istore_n 2, 1) := by decide +kernel
theorem dX5_tickets_12 : decode cX5_tickets 12 = .ok (.bipush (-9), 2) := by decide +kernel
theorem dX5_tickets_14 : decode cX5_tickets 14 = .ok (.istore_n 3, 1) := by decide +kernel
theorem dX5_tickets_15 : decode cX5_tickets 15 = .ok (.iconst 0, 1) := by decide +kernel
theorem dX5_tickets_16 : decode cX5_tickets 16 = .ok (.istore 4, 2) := by decide +kernel
theorem dX5_tickets_18 : decode cX5_tickets 18 = .ok (.iload 4, 2) := by decide +kernel
theorem dX5_tickets_20 : decode cX5_tickets 20 = .ok (.iconst 3, 1) := by decide +kernel
theorem dX5_tickets_21 : decode cX5_tickets 21 = .ok (.if_icmp .gt 59, 3) := by decide +kernel
theorem dX5_tickets_24 : decode cX5_tickets 24 = .ok (.iconst 1, 1) := by decide +kernel
theorem dX5_tickets_25 : decode cX5_tickets 25 = .ok (.istore 5, 2) := by decide +kernel
theorem dX5_tickets_27 : decode cX5_tickets 27 = .ok (.iload 5, 2) := by decide +kernel
theorem dX5_tickets_29 : decode cX5_tickets 29 = .ok (.bipush 9, 2) := by decide +kernel
theorem dX5_tickets_31 : decode cX5_tickets 31 = .ok (.if_icmp .gt 43, 3) := by decide +kernel
theorem dX5_tickets_34 : decode cX5_tickets 34 = .ok (.aload_n 0, 1) := by decide +kernel
theorem dX5_tickets_35 : decode cX5_tickets 35 = .ok (.getfield 48, 3) := by decide +kernel
theorem dX5_tickets_38 : decode cX5_tickets 38 = .ok (.iload 4, 2) := by decide +kernel
theorem dX5_tickets_40 : decode cX5_tickets 40 = .ok (.iload 5, 2) := by decide +kernel
theorem dX5_tickets_42 : decode cX5_tickets 42 = .ok (.invokevirtual 220, 3) := by decide +kernel
theorem dX5_tickets_45 : decode cX5_tickets 45 = .ok (.ifCond .eq 23, 3) := by decide +kernel
theorem dX5_tickets_48 : decode cX5_tickets 48 = .ok (.iload_n 2, 1) := by decide +kernel
theorem dX5_tickets_49 : decode cX5_tickets 49 = .ok (.ifCond .ne 14, 3) := by decide +kernel
theorem dX5_tickets_52 : decode cX5_tickets 52 = .ok (.bipush 10, 2) := by decide +kernel
theorem dX5_tickets_54 : decode cX5_tickets 54 = .ok (.iload 4, 2) := by decide +kernel
theorem dX5_tickets_56 : decode cX5_tickets 56 = .ok (.imul, 1) := by decide +kernel
theorem dX5_tickets_57 : decode cX5_tickets 57 = .ok (.iload 5, 2) := by decide +kernel
theorem dX5_tickets_59 : decode cX5_tickets 59 = .ok (.iadd, 1) := by decide +kernel
theorem dX5_tickets_60 : decode cX5_tickets 60 = .ok (.goto 4, 3) := by decide +kernel
theorem dX5_tickets_63 : decode cX5_tickets 63 = .ok (.iload_n 3, 1) := by decide +kernel
theorem dX5_tickets_64 : decode cX5_tickets 64 = .ok (.istore_n 3, 1) := by decide +kernel
theorem dX5_tickets_65 : decode cX5_tickets 65 = .ok (.iinc 2 1, 3) := by decide +kernel
theorem dX5_tickets_68 : decode cX5_tickets 68 = .ok (.iinc 5 1, 3) := by decide +kernel
theorem dX5_tickets_71 : decode cX5_tickets 71 = .ok (.goto (-44), 3) := by decide +kernel
theorem dX5_tickets_74 : decode cX5_tickets 74 = .ok (.iinc 4 1, 3) := by decide +kernel
theorem dX5_tickets_77 : decode cX5_tickets 77 = .ok (.goto (-59), 3) := by decide +kernel
theorem dX5_tickets_80 : decode cX5_tickets 80 = .ok (.iload_n 1, 1) := by decide +kernel
theorem dX5_tickets_81 : decode cX5_tickets 81 = .ok (.ifCond .ne 7, 3) := by decide +kernel
theorem dX5_tickets_84 : decode cX5_tickets 84 = .ok (.iload_n 2, 1) := by decide +kernel
theorem dX5_tickets_85 : decode cX5_tickets 85 = .ok (.goto 4, 3) := by decide +kernel
theorem dX5_tickets_88 : decode cX5_tickets 88 = .ok (.iload_n 3, 1) := by decide +kernel
theorem dX5_tickets_89 : decode cX5_tickets 89 = .ok (.ireturn, 1) := by decide +kernel
theorem dX5_rests_0 : decode cX5_rests 0 = .ok (.aload_n 0, 1) := by decide +kernel
theorem dX5_rests_1 : decode cX5_rests 1 = .ok (.getfield 19, 3) := by decide +kernel
theorem dX5_rests_4 : decode cX5_rests 4 = .ok (.iload_n 1, 1) := by decide +kernel
theorem dX5_rests_5 : decode cX5_rests 5 = .ok (.invokevirtual 104, 3) := by decide +kernel
theorem dX5_rests_8 : decode cX5_rests 8 = .ok (.ifCond .eq 14, 3) := by decide +kernel
theorem dX5_rests_11 : decode cX5_rests 11 = .ok (.aload_n 0, 1) := by decide +kernel
theorem dX5_rests_12 : decode cX5_rests 12 = .ok (.getfield 19, 3) := by decide +kernel
theorem dX5_rests_15 : decode cX5_rests 15 = .ok (.iload_n 2, 1) := by decide +kernel
theorem dX5_rests_16 : decode cX5_rests 16 = .ok (.invokevirtual 104, 3) := by decide +kernel
theorem dX5_rests_19 : decode cX5_rests 19 = .ok (.ifCond .ne 5, 3) := by decide +kernel
theorem dX5_rests_22 : decode cX5_rests 22 = .ok (.iconst (-1), 1) := by decide +kernel
theorem dX5_rests_23 : decode cX5_rests 23 = .ok (.ireturn, 1) := by decide +kernel
theorem dX5_rests_24 : decode cX5_rests 24 = .ok (.iload_n 1, 1) := by decide +kernel
theorem dX5_rests_25 : decode cX5_rests 25 = .ok (.iload_n 2, 1) := by decide +kernel
theorem dX5_rests_26 : decode cX5_rests 26 = .ok (.if_icmp .eq 10, 3) := by decide +kernel
theorem dX5_rests_29 : decode cX5_rests 29 = .ok (.iload_n 3, 1) := by decide +kernel
theorem dX5_rests_30 : decode cX5_rests 30 = .ok (.invokestatic 185, 3) := by decide +kernel
theorem dX5_rests_33 : decode cX5_rests 33 = .ok (.ifCond .eq 6, 3) := by decide +kernel
theorem dX5_rests_36 : decode cX5_rests 36 = .ok (.bipush (-2), 2) := by decide +kernel
theorem dX5_rests_38 : decode cX5_rests 38 = .ok (.ireturn, 1) := by decide +kernel
theorem dX5_rests_39 : decode cX5_rests 39 = .ok (.iconst 0, 1) := by decide +kernel
theorem dX5_rests_40 : decode cX5_rests 40 = .ok (.istore 4, 2) := by decide +kernel
theorem dX5_rests_42 : decode cX5_rests 42 = .ok (.bipush (-9), 2) := by decide +kernel
theorem dX5_rests_44 : decode cX5_rests 44 = .ok (.istore 5, 2) := by decide +kernel
theorem dX5_rests_46 : decode cX5_rests 46 = .ok (.iconst 0, 1) := by decide +kernel
theorem dX5_rests_47 : decode cX5_rests 47 = .ok (.istore 6, 2) := by decide +kernel
theorem dX5_rests_49 : decode cX5_rests 49 = .ok (.iload 6, 2) := by decide +kernel
theorem dX5_rests_51 : decode cX5_rests 51 = .ok (.iconst 4, 1) := by decide +kernel
theorem dX5_rests_52 : decode cX5_rests 52 = .ok (.if_icmp .ge 106, 3) := by decide +kernel
theorem dX5_rests_55 : decode cX5_rests 55 = .ok (.aload_n 0, 1) := by decide +kernel
theorem dX5_rests_56 : decode cX5_rests 56 = .ok (.iload_n 1, 1) := by decide +kernel
theorem dX5_rests_57 : decode cX5_rests 57 = .ok (.iload_n 1, 1) := by decide +kernel
theorem dX5_rests_58 : decode cX5_rests 58 = .ok (.iload_n 2, 1) := by decide +kernel
theorem dX5_rests_59 : decode cX5_rests 59 = .ok (.iload 6, 2) := by decide +kernel
theorem dX5_rests_61 : decode cX5_rests 61 = .ok (.invokevirtual 223, 3) := by decide +kernel
theorem dX5_rests_64 : decode cX5_rests 64 = .ok (.aload_n 0, 1) := by decide +kernel
theorem dX5_rests_65 : decode cX5_rests 65 = .ok (.iload_n 1, 1) := by decide +kernel
theorem dX5_rests_66 : decode cX5_rests 66 = .ok (.iload_n 1, 1) := by decide +kernel
theorem dX5_rests_67 : decode cX5_rests 67 = .ok (.iload_n 2, 1) := by decide +kernel
theorem dX5_rests_68 : decode cX5_rests 68 = .ok (.iload 6, 2) := by decide +kernel
theorem dX5_rests_70 : decode cX5_rests 70 = .ok (.iconst 2, 1) := by decide +kernel
theorem dX5_rests_71 : decode cX5_rests 71 = .ok (.ixor, 1) := by decide +kernel
theorem dX5_rests_72 : decode cX5_rests 72 = .ok (.invokevirtual 223, 3) := by decide +kernel
theorem dX5_rests_75 : decode cX5_rests 75 = .ok (.if_icmp .lt 7, 3) := by decide +kernel
theorem dX5_rests_78 : decode cX5_rests 78 = .ok (.iconst 1, 1) := by decide +kernel
theorem dX5_rests_79 : decode cX5_rests 79 = .ok (.goto 4, 3) := by decide +kernel
theorem dX5_rests_82 : decode cX5_rests 82 = .ok (.iconst 0, 1) := by decide +kernel
theorem dX5_rests_83 : decode cX5_rests 83 = .ok (.istore 7, 2) := by decide +kernel
theorem dX5_rests_85 : decode cX5_rests 85 = .ok (.aload_n 0, 1) := by decide +kernel
theorem dX5_rests_86 : decode cX5_rests 86 = .ok (.iload_n 2, 1) := by decide +kernel
theorem dX5_rests_87 : decode cX5_rests 87 = .ok (.iload_n 1, 1) := by decide +kernel
theorem dX5_rests_88 : decode cX5_rests 88 = .ok (.iload_n 2, 1) := by decide +kernel
theorem dX5_rests_89 : decode cX5_rests 89 = .ok (.iload 6, 2) := by decide +kernel
theorem dX5_rests_91 : decode cX5_rests 91 = .ok (.invokevirtual 223, 3) := by decide +kernel
theorem dX5_rests_94 : decode cX5_rests 94 = .ok (.aload_n 0, 1) := by decide +kernel
theorem dX5_rests_95 : decode cX5_rests 95 = .ok (.iload_n 2, 1) := by decide +kernel
theorem dX5_rests_96 : decode cX5_rests 96 = .ok (.iload_n 1, 1) := by decide +kernel
theorem dX5_rests_97 : decode cX5_rests 97 = .ok (.iload_n 2, 1) := by decide +kernel
theorem dX5_rests_98 : decode cX5_rests 98 = .ok (.iload 6, 2) := by decide +kernel
theorem dX5_rests_100 : decode cX5_rests 100 = .ok (.iconst 1, 1) := by decide +kernel
theorem dX5_rests_101 : decode cX5_rests 101 = .ok (.ixor, 1) := by decide +kernel
theorem dX5_rests_102 : decode cX5_rests 102 = .ok (.invokevirtual 223, 3) := by decide +kernel
theorem dX5_rests_105 : decode cX5_rests 105 = .ok (.if_icmp .lt 7, 3) := by decide +kernel
theorem dX5_rests_108 : decode cX5_rests 108 = .ok (.iconst 1, 1) := by decide +kernel
theorem dX5_rests_109 : decode cX5_rests 109 = .ok (.goto 4, 3) := by decide +kernel
theorem dX5_rests_112 : decode cX5_rests 112 = .ok (.iconst 0, 1) := by decide +kernel
theorem dX5_rests_113 : decode cX5_rests 113 = .ok (.istore 8, 2) := by decide +kernel
theorem dX5_rests_115 : decode cX5_rests 115 = .ok (.iload 7, 2) := by decide +kernel
theorem dX5_rests_117 : decode cX5_rests 117 = .ok (.ifCond .eq 35, 3) := by decide +kernel
theorem dX5_rests_120 : decode cX5_rests 120 = .ok (.iload 8, 2) := by decide +kernel
theorem dX5_rests_122 : decode cX5_rests 122 = .ok (.ifCond .eq 30, 3) := by decide +kernel
theorem dX5_rests_125 : decode cX5_rests 125 = .ok (.iload 4, 2) := by decide +kernel
theorem dX5_rests_127 : decode cX5_rests 127 = .ok (.ifCond .ne 18, 3) := by decide +kernel
theorem dX5_rests_130 : decode cX5_rests 130 = .ok (.bipush 10, 2) := by decide +kernel
theorem dX5_rests_132 : decode cX5_rests 132 = .ok (.iload 6, 2) := by decide +kernel
theorem dX5_rests_134 : decode cX5_rests 134 = .ok (.iconst 1, 1) := by decide +kernel
theorem dX5_rests_135 : decode cX5_rests 135 = .ok (.ishr, 1) := by decide +kernel
theorem dX5_rests_136 : decode cX5_rests 136 = .ok (.imul, 1) := by decide +kernel
theorem dX5_rests_137 : decode cX5_rests 137 = .ok (.iload 6, 2) := by decide +kernel
theorem dX5_rests_139 : decode cX5_rests 139 = .ok (.iconst 1, 1) := by decide +kernel
theorem dX5_rests_140 : decode cX5_rests 140 = .ok (.iand, 1) := by decide +kernel
theorem dX5_rests_141 : decode cX5_rests 141 = .ok (.iadd, 1) := by decide +kernel
theorem dX5_rests_142 : decode cX5_rests 142 = .ok (.goto 5, 3) := by decide +kernel
theorem dX5_rests_145 : decode cX5_rests 145 = .ok (.iload 5, 2) := by decide +kernel
theorem dX5_rests_147 : decode cX5_rests 147 = .ok (.istore 5, 2) := by decide +kernel
theorem dX5_rests_149 : decode cX5_rests 149 = .ok (.iinc 4 1, 3) := by decide +kernel
theorem dX5_rests_152 : decode cX5_rests 152 = .ok (.iinc 6 1, 3) := by decide +kernel
theorem dX5_rests_155 : decode cX5_rests 155 = .ok (.goto (-106), 3) := by decide +kernel
theorem dX5_rests_158 : decode cX5_rests 158 = .ok (.iload_n 3, 1) := by decide +kernel
theorem dX5_rests_159 : decode cX5_rests 159 = .ok (.ifCond .ne 8, 3) := by decide +kernel
theorem dX5_rests_162 : decode cX5_rests 162 = .ok (.iload 4, 2) := by decide +kernel
theorem dX5_rests_164 : decode cX5_rests 164 = .ok (.goto 5, 3) := by decide +kernel
theorem dX5_rests_167 : decode cX5_rests 167 = .ok (.iload 5, 2) := by decide +kernel
theorem dX5_rests_169 : decode cX5_rests 169 = .ok (.ireturn, 1) := by decide +kernel
theorem dX5_sales_0 : decode cX5_sales 0 = .ok (.iload_n 1, 1) := by decide +kernel
theorem dX5_sales_1 : decode cX5_sales 1 = .ok (.ifCond .lt 18, 3) := by decide +kernel
theorem dX5_sales_4 : decode cX5_sales 4 = .ok (.iload_n 1, 1) := by decide +kernel
theorem dX5_sales_5 : decode cX5_sales 5 = .ok (.iconst 5, 1) := by decide +kernel
theorem dX5_sales_6 : decode cX5_sales 6 = .ok (.if_icmp .gt 13, 3) := by decide +kernel
theorem dX5_sales_9 : decode cX5_sales 9 = .ok (.iload_n 2, 1) := by decide +kernel
theorem dX5_sales_10 : decode cX5_sales 10 = .ok (.ifCond .lt 9, 3) := by decide +kernel
theorem dX5_sales_13 : decode cX5_sales 13 = .ok (.iload_n 2, 1) := by decide +kernel
theorem dX5_sales_14 : decode cX5_sales 14 = .ok (.bipush 10, 2) := by decide +kernel
theorem dX5_sales_16 : decode cX5_sales 16 = .ok (.if_icmp .le 6, 3) := by decide +kernel
theorem dX5_sales_19 : decode cX5_sales 19 = .ok (.bipush (-2), 2) := by decide +kernel
theorem dX5_sales_21 : decode cX5_sales 21 = .ok (.ireturn, 1) := by decide +kernel
theorem dX5_sales_22 : decode cX5_sales 22 = .ok (.aload_n 0, 1) := by decide +kernel
theorem dX5_sales_23 : decode cX5_sales 23 = .ok (.getfield 31, 3) := by decide +kernel
theorem dX5_sales_26 : decode cX5_sales 26 = .ok (.iconst 1, 1) := by decide +kernel
theorem dX5_sales_27 : decode cX5_sales 27 = .ok (.invokevirtual 93, 3) := by decide +kernel
theorem dX5_sales_30 : decode cX5_sales 30 = .ok (.istore 4, 2) := by decide +kernel
theorem dX5_sales_32 : decode cX5_sales 32 = .ok (.iconst 0, 1) := by decide +kernel
theorem dX5_sales_33 : decode cX5_sales 33 = .ok (.istore 5, 2) := by decide +kernel
theorem dX5_sales_35 : decode cX5_sales 35 = .ok (.iconst 0, 1) := by decide +kernel
theorem dX5_sales_36 : decode cX5_sales 36 = .ok (.istore 6, 2) := by decide +kernel
theorem dX5_sales_38 : decode cX5_sales 38 = .ok (.iconst 0, 1) := by decide +kernel
theorem dX5_sales_39 : decode cX5_sales 39 = .ok (.istore 7, 2) := by decide +kernel
theorem dX5_sales_41 : decode cX5_sales 41 = .ok (.iload 7, 2) := by decide +kernel
theorem dX5_sales_43 : decode cX5_sales 43 = .ok (.bipush 32, 2) := by decide +kernel
theorem dX5_sales_45 : decode cX5_sales 45 = .ok (.if_icmp .ge 57, 3) := by decide +kernel
theorem dX5_sales_48 : decode cX5_sales 48 = .ok (.iload 7, 2) := by decide +kernel
theorem dX5_sales_50 : decode cX5_sales 50 = .ok (.iload 4, 2) := by decide +kernel
theorem dX5_sales_52 : decode cX5_sales 52 = .ok (.iconst (-1), 1) := by decide +kernel
theorem dX5_sales_53 : decode cX5_sales 53 = .ok (.ixor, 1) := by decide +kernel
theorem dX5_sales_54 : decode cX5_sales 54 = .ok (.iand, 1) := by decide +kernel
theorem dX5_sales_55 : decode cX5_sales 55 = .ok (.ifCond .ne 41, 3) := by decide +kernel
theorem dX5_sales_58 : decode cX5_sales 58 = .ok (.iload 7, 2) := by decide +kernel
theorem dX5_sales_60 : decode cX5_sales 60 = .ok (.iload 4, 2) := by decide +kernel
theorem dX5_sales_62 : decode cX5_sales 62 = .ok (.iload_n 2, 1) := by decide +kernel
theorem dX5_sales_63 : decode cX5_sales 63 = .ok (.invokestatic 227, 3) := by decide +kernel
theorem dX5_sales_66 : decode cX5_sales 66 = .ok (.istore 8, 2) := by decide +kernel
theorem dX5_sales_68 : decode cX5_sales 68 = .ok (.iload 6, 2) := by decide +kernel
theorem dX5_sales_70 : decode cX5_sales 70 = .ok (.iload 8, 2) := by decide +kernel
theorem dX5_sales_72 : decode cX5_sales 72 = .ok (.iadd, 1) := by decide +kernel
theorem dX5_sales_73 : decode cX5_sales 73 = .ok (.istore 6, 2) := by decide +kernel
theorem dX5_sales_75 : decode cX5_sales 75 = .ok (.iload 5, 2) := by decide +kernel
theorem dX5_sales_77 : decode cX5_sales 77 = .ok (.aload_n 0, 1) := by decide +kernel
theorem dX5_sales_78 : decode cX5_sales 78 = .ok (.iload 7, 2) := by decide +kernel
theorem dX5_sales_80 : decode cX5_sales 80 = .ok (.invokevirtual 230, 3) := by decide +kernel
theorem dX5_sales_83 : decode cX5_sales 83 = .ok (.iload_n 1, 1) := by decide +kernel
theorem dX5_sales_84 : decode cX5_sales 84 = .ok (.if_icmp .lt 8, 3) := by decide +kernel
theorem dX5_sales_87 : decode cX5_sales 87 = .ok (.iload 8, 2) := by decide +kernel
theorem dX5_sales_89 : decode cX5_sales 89 = .ok (.goto 4, 3) := by decide +kernel
theorem dX5_sales_92 : decode cX5_sales 92 = .ok (.iconst 0, 1) := by decide +kernel
theorem dX5_sales_93 : decode cX5_sales 93 = .ok (.iadd, 1) := by decide +kernel
theorem dX5_sales_94 : decode cX5_sales 94 = .ok (.istore 5, 2) := by decide +kernel
theorem dX5_sales_96 : decode cX5_sales 96 = .ok (.iinc 7 1, 3) := by decide +kernel
theorem dX5_sales_99 : decode cX5_sales 99 = .ok (.goto (-58), 3) := by decide +kernel
theorem dX5_sales_102 : decode cX5_sales 102 = .ok (.iload 5, 2) := by decide +kernel
theorem dX5_sales_104 : decode cX5_sales 104 = .ok (.iload 6, 2) := by decide +kernel
theorem dX5_sales_106 : decode cX5_sales 106 = .ok (.iload_n 3, 1) := by decide +kernel
theorem dX5_sales_107 : decode cX5_sales 107 = .ok (.invokestatic 212, 3) := by decide +kernel
theorem dX5_sales_110 : decode cX5_sales 110 = .ok (.ireturn, 1) := by decide +kernel
theorem dX5_seed_0 : decode cX5_seed 0 = .ok (.aload_n 0, 1) := by decide +kernel
theorem dX5_seed_1 : decode cX5_seed 1 = .ok (.getfield 233, 3) := by decide +kernel
theorem dX5_seed_4 : decode cX5_seed 4 = .ok (.lstore_n 3, 1) := by decide +kernel
theorem dX5_seed_5 : decode cX5_seed 5 = .ok (.aload_n 0, 1) := by decide +kernel
theorem dX5_seed_6 : decode cX5_seed 6 = .ok (.lload_n 1, 1) := by decide +kernel
theorem dX5_seed_7 : decode cX5_seed 7 = .ok (.putfield 233, 3) := by decide +kernel
theorem dX5_seed_10 : decode cX5_seed 10 = .ok (.lload_n 3, 1) := by decide +kernel
theorem dX5_seed_11 : decode cX5_seed 11 = .ok (.lreturn, 1) := by decide +kernel
theorem dX5_years_0 : decode cX5_years 0 = .ok (.iload_n 1, 1) := by decide +kernel
theorem dX5_years_1 : decode cX5_years 1 = .ok (.iconst 1, 1) := by decide +kernel
theorem dX5_years_2 : decode cX5_years 2 = .ok (.if_icmp .lt 9, 3) := by decide +kernel
theorem dX5_years_5 : decode cX5_years 5 = .ok (.iload_n 1, 1) := by decide +kernel
theorem dX5_years_6 : decode cX5_years 6 = .ok (.bipush 30, 2) := by decide +kernel
theorem dX5_years_8 : decode cX5_years 8 = .ok (.if_icmp .le 6, 3) := by decide +kernel
theorem dX5_years_11 : decode cX5_years 11 = .ok (.bipush (-2), 2) := by decide +kernel
theorem dX5_years_13 : decode cX5_years 13 = .ok (.ireturn, 1) := by decide +kernel
theorem dX5_years_14 : decode cX5_years 14 = .ok (.aload_n 0, 1) := by decide +kernel
theorem dX5_years_15 : decode cX5_years 15 = .ok (.getfield 35, 3) := by decide +kernel
theorem dX5_years_18 : decode cX5_years 18 = .ok (.aload_n 0, 1) := by decide +kernel
theorem dX5_years_19 : decode cX5_years 19 = .ok (.getfield 31, 3) := by decide +kernel
theorem dX5_years_22 : decode cX5_years 22 = .ok (.invokevirtual 197, 3) := by decide +kernel
theorem dX5_years_25 : decode cX5_years 25 = .ok (.iconst 0, 1) := by decide +kernel
theorem dX5_years_26 : decode cX5_years 26 = .ok (.istore_n 2, 1) := by decide +kernel
theorem dX5_years_27 : decode cX5_years 27 = .ok (.iconst 0, 1) := by decide +kernel
theorem dX5_years_28 : decode cX5_years 28 = .ok (.istore_n 3, 1) := by decide +kernel
theorem dX5_years_29 : decode cX5_years 29 = .ok (.iload_n 3, 1) := by decide +kernel
theorem dX5_years_30 : decode cX5_years 30 = .ok (.iload_n 1, 1) := by decide +kernel
theorem dX5_years_31 : decode cX5_years 31 = .ok (.if_icmp .ge 54, 3) := by decide +kernel
theorem dX5_years_34 : decode cX5_years 34 = .ok (.aload_n 0, 1) := by decide +kernel
theorem dX5_years_35 : decode cX5_years 35 = .ok (.aload_n 0, 1) := by decide +kernel
theorem dX5_years_36 : decode cX5_years 36 = .ok (.getfield 233, 3) := by decide +kernel
theorem dX5_years_39 : decode cX5_years 39 = .ok (.ldc2_w 237, 3) := by decide +kernel
theorem dX5_years_42 : decode cX5_years 42 = .ok (.lmul, 1) := by decide +kernel
theorem dX5_years_43 : decode cX5_years 43 = .ok (.ldc2_w 239, 3) := by decide +kernel
theorem dX5_years_46 : decode cX5_years 46 = .ok (.ladd, 1) := by decide +kernel
theorem dX5_years_47 : decode cX5_years 47 = .ok (.putfield 233, 3) := by decide +kernel
theorem dX5_years_50 : decode cX5_years 50 = .ok (.aload_n 0, 1) := by decide +kernel
theorem dX5_years_51 : decode cX5_years 51 = .ok (.getfield 35, 3) := by decide +kernel
theorem dX5_years_54 : decode cX5_years 54 = .ok (.aload_n 0, 1) := by decide +kernel
theorem dX5_years_55 : decode cX5_years 55 = .ok (.getfield 233, 3) := by decide +kernel
theorem dX5_years_58 : decode cX5_years 58 = .ok (.bipush 33, 2) := by decide +kernel
theorem dX5_years_60 : decode cX5_years 60 = .ok (.lushr, 1) := by decide +kernel
theorem dX5_years_61 : decode cX5_years 61 = .ok (.ldc2_w 241, 3) := by decide +kernel
theorem dX5_years_64 : decode cX5_years 64 = .ok (.lrem, 1) := by decide +kernel
theorem dX5_years_65 : decode cX5_years 65 = .ok (.l2i, 1) := by decide +kernel
theorem dX5_years_66 : decode cX5_years 66 = .ok (.invokevirtual 243, 3) := by decide +kernel
theorem dX5_years_69 : decode cX5_years 69 = .ok (.iload_n 2, 1) := by decide +kernel
theorem dX5_years_70 : decode cX5_years 70 = .ok (.aload_n 0, 1) := by decide +kernel
theorem dX5_years_71 : decode cX5_years 71 = .ok (.getfield 35, 3) := by decide +kernel
theorem dX5_years_74 : decode cX5_years 74 = .ok (.invokevirtual 246, 3) := by decide +kernel
theorem dX5_years_77 : decode cX5_years 77 = .ok (.iadd, 1) := by decide +kernel
theorem dX5_years_78 : decode cX5_years 78 = .ok (.istore_n 2, 1) := by decide +kernel
theorem dX5_years_79 : decode cX5_years 79 = .ok (.iinc 3 1, 3) := by decide +kernel
theorem dX5_years_82 : decode cX5_years 82 = .ok (.goto (-53), 3) := by decide +kernel
theorem dX5_years_85 : decode cX5_years 85 = .ok (.iload_n 2, 1) := by decide +kernel
theorem dX5_years_86 : decode cX5_years 86 = .ok (.ireturn, 1) := by decide +kernel
theorem dX5_keep_0 : decode cX5_keep 0 = .ok (.iload_n 1, 1) := by decide +kernel
theorem dX5_keep_1 : decode cX5_keep 1 = .ok (.ifCond .lt 8, 3) := by decide +kernel
theorem dX5_keep_4 : decode cX5_keep 4 = .ok (.iload_n 1, 1) := by decide +kernel
theorem dX5_keep_5 : decode cX5_keep 5 = .ok (.iconst 2, 1) := by decide +kernel
theorem dX5_keep_6 : decode cX5_keep 6 = .ok (.if_icmp .lt 5, 3) := by decide +kernel
theorem dX5_keep_9 : decode cX5_keep 9 = .ok (.iconst (-1), 1) := by decide +kernel
theorem dX5_keep_10 : decode cX5_keep 10 = .ok (.ireturn, 1) := by decide +kernel
theorem dX5_keep_11 : decode cX5_keep 11 = .ok (.aload_n 0, 1) := by decide +kernel
theorem dX5_keep_12 : decode cX5_keep 12 = .ok (.getfield 31, 3) := by decide +kernel
theorem dX5_keep_15 : decode cX5_keep 15 = .ok (.aload_n 0, 1) := by decide +kernel
theorem dX5_keep_16 : decode cX5_keep 16 = .ok (.getfield 52, 3) := by decide +kernel
theorem dX5_keep_19 : decode cX5_keep 19 = .ok (.iload_n 1, 1) := by decide +kernel
theorem dX5_keep_20 : decode cX5_keep 20 = .ok (.invokevirtual 249, 3) := by decide +kernel
theorem dX5_keep_23 : decode cX5_keep 23 = .ok (.aload_n 0, 1) := by decide +kernel
theorem dX5_keep_24 : decode cX5_keep 24 = .ok (.dup, 1) := by decide +kernel
theorem dX5_keep_25 : decode cX5_keep 25 = .ok (.getfield 74, 3) := by decide +kernel
theorem dX5_keep_28 : decode cX5_keep 28 = .ok (.iconst 1, 1) := by decide +kernel
theorem dX5_keep_29 : decode cX5_keep 29 = .ok (.iload_n 1, 1) := by decide +kernel
theorem dX5_keep_30 : decode cX5_keep 30 = .ok (.ishl, 1) := by decide +kernel
theorem dX5_keep_31 : decode cX5_keep 31 = .ok (.ior, 1) := by decide +kernel
theorem dX5_keep_32 : decode cX5_keep 32 = .ok (.putfield 74, 3) := by decide +kernel
theorem dX5_keep_35 : decode cX5_keep 35 = .ok (.aload_n 0, 1) := by decide +kernel
theorem dX5_keep_36 : decode cX5_keep 36 = .ok (.getfield 31, 3) := by decide +kernel
theorem dX5_keep_39 : decode cX5_keep 39 = .ok (.invokevirtual 86, 3) := by decide +kernel
theorem dX5_keep_42 : decode cX5_keep 42 = .ok (.ireturn, 1) := by decide +kernel
theorem dX5_again_0 : decode cX5_again 0 = .ok (.iload_n 1, 1) := by decide +kernel
theorem dX5_again_1 : decode cX5_again 1 = .ok (.ifCond .lt 8, 3) := by decide +kernel
theorem dX5_again_4 : decode cX5_again 4 = .ok (.iload_n 1, 1) := by decide +kernel
theorem dX5_again_5 : decode cX5_again 5 = .ok (.iconst 2, 1) := by decide +kernel
theorem dX5_again_6 : decode cX5_again 6 = .ok (.if_icmp .lt 5, 3) := by decide +kernel
theorem dX5_again_9 : decode cX5_again 9 = .ok (.iconst (-1), 1) := by decide +kernel
theorem dX5_again_10 : decode cX5_again 10 = .ok (.ireturn, 1) := by decide +kernel
theorem dX5_again_11 : decode cX5_again 11 = .ok (.aload_n 0, 1) := by decide +kernel
theorem dX5_again_12 : decode cX5_again 12 = .ok (.getfield 74, 3) := by decide +kernel
theorem dX5_again_15 : decode cX5_again 15 = .ok (.iload_n 1, 1) := by decide +kernel
theorem dX5_again_16 : decode cX5_again 16 = .ok (.ishr, 1) := by decide +kernel
theorem dX5_again_17 : decode cX5_again 17 = .ok (.iconst 1, 1) := by decide +kernel
theorem dX5_again_18 : decode cX5_again 18 = .ok (.iand, 1) := by decide +kernel
theorem dX5_again_19 : decode cX5_again 19 = .ok (.ifCond .ne 6, 3) := by decide +kernel
theorem dX5_again_22 : decode cX5_again 22 = .ok (.bipush (-3), 2) := by decide +kernel
theorem dX5_again_24 : decode cX5_again 24 = .ok (.ireturn, 1) := by decide +kernel
theorem dX5_again_25 : decode cX5_again 25 = .ok (.aload_n 0, 1) := by decide +kernel
theorem dX5_again_26 : decode cX5_again 26 = .ok (.getfield 31, 3) := by decide +kernel
theorem dX5_again_29 : decode cX5_again 29 = .ok (.aload_n 0, 1) := by decide +kernel
theorem dX5_again_30 : decode cX5_again 30 = .ok (.getfield 52, 3) := by decide +kernel
theorem dX5_again_33 : decode cX5_again 33 = .ok (.iload_n 1, 1) := by decide +kernel
theorem dX5_again_34 : decode cX5_again 34 = .ok (.invokevirtual 253, 3) := by decide +kernel
theorem dX5_again_37 : decode cX5_again 37 = .ok (.aload_n 0, 1) := by decide +kernel
theorem dX5_again_38 : decode cX5_again 38 = .ok (.getfield 41, 3) := by decide +kernel
theorem dX5_again_41 : decode cX5_again 41 = .ok (.invokevirtual 71, 3) := by decide +kernel
theorem dX5_again_44 : decode cX5_again 44 = .ok (.aload_n 0, 1) := by decide +kernel
theorem dX5_again_45 : decode cX5_again 45 = .ok (.getfield 31, 3) := by decide +kernel
theorem dX5_again_48 : decode cX5_again 48 = .ok (.invokevirtual 86, 3) := by decide +kernel
theorem dX5_again_51 : decode cX5_again 51 = .ok (.ireturn, 1) := by decide +kernel
theorem dX5_isNoDaysAhead_0 : decode cX5_isNoDaysAhead 0 = .ok (.iload_n 0, 1) := by decide +kernel
theorem dX5_isNoDaysAhead_1 : decode cX5_isNoDaysAhead 1 = .ok (.ifCond .lt 9, 3) := by decide +kernel
theorem dX5_isNoDaysAhead_4 : decode cX5_isNoDaysAhead 4 = .ok (.iload_n 0, 1) := by decide +kernel
theorem dX5_isNoDaysAhead_5 : decode cX5_isNoDaysAhead 5 = .ok (.bipush 20, 2) := by decide +kernel
theorem dX5_isNoDaysAhead_7 : decode cX5_isNoDaysAhead 7 = .ok (.if_icmp .le 7, 3) := by decide +kernel
theorem dX5_isNoDaysAhead_10 : decode cX5_isNoDaysAhead 10 = .ok (.iconst 1, 1) := by decide +kernel
theorem dX5_isNoDaysAhead_11 : decode cX5_isNoDaysAhead 11 = .ok (.goto 4, 3) := by decide +kernel
theorem dX5_isNoDaysAhead_14 : decode cX5_isNoDaysAhead 14 = .ok (.iconst 0, 1) := by decide +kernel
theorem dX5_isNoDaysAhead_15 : decode cX5_isNoDaysAhead 15 = .ok (.ireturn, 1) := by decide +kernel
theorem dX5_isNoChoice_0 : decode cX5_isNoChoice 0 = .ok (.iload_n 0, 1) := by decide +kernel
theorem dX5_isNoChoice_1 : decode cX5_isNoChoice 1 = .ok (.ifCond .lt 8, 3) := by decide +kernel
theorem dX5_isNoChoice_4 : decode cX5_isNoChoice 4 = .ok (.iload_n 0, 1) := by decide +kernel
theorem dX5_isNoChoice_5 : decode cX5_isNoChoice 5 = .ok (.iconst 1, 1) := by decide +kernel
theorem dX5_isNoChoice_6 : decode cX5_isNoChoice 6 = .ok (.if_icmp .le 7, 3) := by decide +kernel
theorem dX5_isNoChoice_9 : decode cX5_isNoChoice 9 = .ok (.iconst 1, 1) := by decide +kernel
theorem dX5_isNoChoice_10 : decode cX5_isNoChoice 10 = .ok (.goto 4, 3) := by decide +kernel
theorem dX5_isNoChoice_13 : decode cX5_isNoChoice 13 = .ok (.iconst 0, 1) := by decide +kernel
theorem dX5_isNoChoice_14 : decode cX5_isNoChoice 14 = .ok (.ireturn, 1) := by decide +kernel
theorem dX5_lookAhead_0 : decode cX5_lookAhead 0 = .ok (.aload_n 0, 1) := by decide +kernel
theorem dX5_lookAhead_1 : decode cX5_lookAhead 1 = .ok (.getfield 35, 3) := by decide +kernel
theorem dX5_lookAhead_4 : decode cX5_lookAhead 4 = .ok (.aload_n 0, 1) := by decide +kernel
theorem dX5_lookAhead_5 : decode cX5_lookAhead 5 = .ok (.getfield 31, 3) := by decide +kernel
theorem dX5_lookAhead_8 : decode cX5_lookAhead 8 = .ok (.invokevirtual 197, 3) := by decide +kernel
theorem dX5_lookAhead_11 : decode cX5_lookAhead 11 = .ok (.iconst 0, 1) := by decide +kernel
theorem dX5_lookAhead_12 : decode cX5_lookAhead 12 = .ok (.istore_n 2, 1) := by decide +kernel
theorem dX5_lookAhead_13 : decode cX5_lookAhead 13 = .ok (.iload_n 2, 1) := by decide +kernel
theorem dX5_lookAhead_14 : decode cX5_lookAhead 14 = .ok (.iload_n 1, 1) := by decide +kernel
theorem dX5_lookAhead_15 : decode cX5_lookAhead 15 = .ok (.if_icmp .ge 17, 3) := by decide +kernel
theorem dX5_lookAhead_18 : decode cX5_lookAhead 18 = .ok (.aload_n 0, 1) := by decide +kernel
theorem dX5_lookAhead_19 : decode cX5_lookAhead 19 = .ok (.getfield 35, 3) := by decide +kernel
theorem dX5_lookAhead_22 : decode cX5_lookAhead 22 = .ok (.invokevirtual 157, 3) := by decide +kernel
theorem dX5_lookAhead_25 : decode cX5_lookAhead 25 = .ok (.pop, 1) := by decide +kernel
theorem dX5_lookAhead_26 : decode cX5_lookAhead 26 = .ok (.iinc 2 1, 3) := by decide +kernel
theorem dX5_lookAhead_29 : decode cX5_lookAhead 29 = .ok (.goto (-16), 3) := by decide +kernel
theorem dX5_lookAhead_32 : decode cX5_lookAhead 32 = .ok (.return_, 1) := by decide +kernel
theorem dX5_deedsIfPledged_0 : decode cX5_deedsIfPledged 0 = .ok (.iload_n 1, 1) := by decide +kernel
theorem dX5_deedsIfPledged_1 : decode cX5_deedsIfPledged 1 = .ok (.aload_n 0, 1) := by decide +kernel
theorem dX5_deedsIfPledged_2 : decode cX5_deedsIfPledged 2 = .ok (.getfield 19, 3) := by decide +kernel
theorem dX5_deedsIfPledged_5 : decode cX5_deedsIfPledged 5 = .ok (.iload_n 2, 1) := by decide +kernel
theorem dX5_deedsIfPledged_6 : decode cX5_deedsIfPledged 6 = .ok (.invokevirtual 111, 3) := by decide +kernel
