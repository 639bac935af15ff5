theorem dX3_passDay_30 : decode cX3_passDay 30 = .ok (.iload_n 1, 1) := by decide +kernel
theorem dX3_passDay_31 : decode cX3_passDay 31 = .ok (.aload_n 0, 1) := by decide +kernel
theorem dX3_passDay_32 : decode cX3_passDay 32 = .ok (.iload_n 2, 1) := by decide +kernel
theorem dX3_passDay_33 : decode cX3_passDay 33 = .ok (.invokevirtual 105, 3) := by decide +kernel
theorem dX3_passDay_36 : decode cX3_passDay 36 = .ok (.ifCond .eq 7, 3) := by decide +kernel
theorem dX3_passDay_39 : decode cX3_passDay 39 = .ok (.iconst 1, 1) := by decide +kernel
theorem dX3_passDay_40 : decode cX3_passDay 40 = .ok (.goto 4, 3) := by decide +kernel
theorem dX3_passDay_43 : decode cX3_passDay 43 = .ok (.iconst 0, 1) := by decide +kernel
theorem dX3_passDay_44 : decode cX3_passDay 44 = .ok (.iadd, 1) := by decide +kernel
theorem dX3_passDay_45 : decode cX3_passDay 45 = .ok (.istore_n 1, 1) := by decide +kernel
theorem dX3_passDay_46 : decode cX3_passDay 46 = .ok (.iinc 2 1, 3) := by decide +kernel
theorem dX3_passDay_49 : decode cX3_passDay 49 = .ok (.goto (-45), 3) := by decide +kernel
theorem dX3_passDay_52 : decode cX3_passDay 52 = .ok (.aload_n 0, 1) := by decide +kernel
theorem dX3_passDay_53 : decode cX3_passDay 53 = .ok (.getfield 11, 3) := by decide +kernel
theorem dX3_passDay_56 : decode cX3_passDay 56 = .ok (.iconst 1, 1) := by decide +kernel
theorem dX3_passDay_57 : decode cX3_passDay 57 = .ok (.aload_n 0, 1) := by decide +kernel
theorem dX3_passDay_58 : decode cX3_passDay 58 = .ok (.invokevirtual 65, 3) := by decide +kernel
theorem dX3_passDay_61 : decode cX3_passDay 61 = .ok (.iconst 1, 1) := by decide +kernel
theorem dX3_passDay_62 : decode cX3_passDay 62 = .ok (.iadd, 1) := by decide +kernel
theorem dX3_passDay_63 : decode cX3_passDay 63 = .ok (.invokestatic 25, 3) := by decide +kernel
theorem dX3_passDay_66 : decode cX3_passDay 66 = .ok (.aload_n 0, 1) := by decide +kernel
theorem dX3_passDay_67 : decode cX3_passDay 67 = .ok (.invokevirtual 108, 3) := by decide +kernel
theorem dX3_passDay_70 : decode cX3_passDay 70 = .ok (.iload_n 1, 1) := by decide +kernel
theorem dX3_passDay_71 : decode cX3_passDay 71 = .ok (.ireturn, 1) := by decide +kernel
theorem dX3_tryDeed_0 : decode cX3_tryDeed 0 = .ok (.aload_n 0, 1) := by decide +kernel
theorem dX3_tryDeed_1 : decode cX3_tryDeed 1 = .ok (.getfield 15, 3) := by decide +kernel
theorem dX3_tryDeed_4 : decode cX3_tryDeed 4 = .ok (.iload_n 1, 1) := by decide +kernel
theorem dX3_tryDeed_5 : decode cX3_tryDeed 5 = .ok (.invokevirtual 111, 3) := by decide +kernel
theorem dX3_tryDeed_8 : decode cX3_tryDeed 8 = .ok (.istore_n 2, 1) := by decide +kernel
theorem dX3_tryDeed_9 : decode cX3_tryDeed 9 = .ok (.aload_n 0, 1) := by decide +kernel
theorem dX3_tryDeed_10 : decode cX3_tryDeed 10 = .ok (.iload_n 2, 1) := by decide +kernel
theorem dX3_tryDeed_11 : decode cX3_tryDeed 11 = .ok (.invokevirtual 50, 3) := by decide +kernel
theorem dX3_tryDeed_14 : decode cX3_tryDeed 14 = .ok (.ifCond .eq 17, 3) := by decide +kernel
theorem dX3_tryDeed_17 : decode cX3_tryDeed 17 = .ok (.aload_n 0, 1) := by decide +kernel
theorem dX3_tryDeed_18 : decode cX3_tryDeed 18 = .ok (.getfield 11, 3) := by decide +kernel
theorem dX3_tryDeed_21 : decode cX3_tryDeed 21 = .ok (.bipush 15, 2) := by decide +kernel
theorem dX3_tryDeed_23 : decode cX3_tryDeed 23 = .ok (.iload_n 1, 1) := by decide +kernel
theorem dX3_tryDeed_24 : decode cX3_tryDeed 24 = .ok (.iadd, 1) := by decide +kernel
theorem dX3_tryDeed_25 : decode cX3_tryDeed 25 = .ok (.iconst 2, 1) := by decide +kernel
theorem dX3_tryDeed_26 : decode cX3_tryDeed 26 = .ok (.invokestatic 25, 3) := by decide +kernel
theorem dX3_tryDeed_29 : decode cX3_tryDeed 29 = .ok (.iconst 0, 1) := by decide +kernel
theorem dX3_tryDeed_30 : decode cX3_tryDeed 30 = .ok (.ireturn, 1) := by decide +kernel
theorem dX3_tryDeed_31 : decode cX3_tryDeed 31 = .ok (.aload_n 0, 1) := by decide +kernel
theorem dX3_tryDeed_32 : decode cX3_tryDeed 32 = .ok (.getfield 11, 3) := by decide +kernel
theorem dX3_tryDeed_35 : decode cX3_tryDeed 35 = .ok (.bipush 15, 2) := by decide +kernel
theorem dX3_tryDeed_37 : decode cX3_tryDeed 37 = .ok (.iload_n 1, 1) := by decide +kernel
theorem dX3_tryDeed_38 : decode cX3_tryDeed 38 = .ok (.iadd, 1) := by decide +kernel
theorem dX3_tryDeed_39 : decode cX3_tryDeed 39 = .ok (.iconst 1, 1) := by decide +kernel
theorem dX3_tryDeed_40 : decode cX3_tryDeed 40 = .ok (.invokestatic 25, 3) := by decide +kernel
theorem dX3_tryDeed_43 : decode cX3_tryDeed 43 = .ok (.aload_n 0, 1) := by decide +kernel
theorem dX3_tryDeed_44 : decode cX3_tryDeed 44 = .ok (.aload_n 0, 1) := by decide +kernel
theorem dX3_tryDeed_45 : decode cX3_tryDeed 45 = .ok (.getfield 15, 3) := by decide +kernel
theorem dX3_tryDeed_48 : decode cX3_tryDeed 48 = .ok (.iload_n 2, 1) := by decide +kernel
theorem dX3_tryDeed_49 : decode cX3_tryDeed 49 = .ok (.invokevirtual 76, 3) := by decide +kernel
theorem dX3_tryDeed_52 : decode cX3_tryDeed 52 = .ok (.aload_n 0, 1) := by decide +kernel
theorem dX3_tryDeed_53 : decode cX3_tryDeed 53 = .ok (.getfield 15, 3) := by decide +kernel
theorem dX3_tryDeed_56 : decode cX3_tryDeed 56 = .ok (.iload_n 1, 1) := by decide +kernel
theorem dX3_tryDeed_57 : decode cX3_tryDeed 57 = .ok (.invokevirtual 114, 3) := by decide +kernel
theorem dX3_tryDeed_60 : decode cX3_tryDeed 60 = .ok (.invokevirtual 92, 3) := by decide +kernel
theorem dX3_tryDeed_63 : decode cX3_tryDeed 63 = .ok (.iconst 1, 1) := by decide +kernel
theorem dX3_tryDeed_64 : decode cX3_tryDeed 64 = .ok (.ireturn, 1) := by decide +kernel
theorem dX3_sellOverdue_0 : decode cX3_sellOverdue 0 = .ok (.iconst 0, 1) := by decide +kernel
theorem dX3_sellOverdue_1 : decode cX3_sellOverdue 1 = .ok (.istore_n 1, 1) := by decide +kernel
theorem dX3_sellOverdue_2 : decode cX3_sellOverdue 2 = .ok (.iload_n 1, 1) := by decide +kernel
theorem dX3_sellOverdue_3 : decode cX3_sellOverdue 3 = .ok (.aload_n 0, 1) := by decide +kernel
theorem dX3_sellOverdue_4 : decode cX3_sellOverdue 4 = .ok (.getfield 15, 3) := by decide +kernel
theorem dX3_sellOverdue_7 : decode cX3_sellOverdue 7 = .ok (.getfield 47, 3) := by decide +kernel
theorem dX3_sellOverdue_10 : decode cX3_sellOverdue 10 = .ok (.if_icmp .ge 66, 3) := by decide +kernel
theorem dX3_sellOverdue_13 : decode cX3_sellOverdue 13 = .ok (.aload_n 0, 1) := by decide +kernel
theorem dX3_sellOverdue_14 : decode cX3_sellOverdue 14 = .ok (.iload_n 1, 1) := by decide +kernel
theorem dX3_sellOverdue_15 : decode cX3_sellOverdue 15 = .ok (.invokevirtual 50, 3) := by decide +kernel
theorem dX3_sellOverdue_18 : decode cX3_sellOverdue 18 = .ok (.iconst 1, 1) := by decide +kernel
theorem dX3_sellOverdue_19 : decode cX3_sellOverdue 19 = .ok (.if_icmp .ne 22, 3) := by decide +kernel
theorem dX3_sellOverdue_22 : decode cX3_sellOverdue 22 = .ok (.aload_n 0, 1) := by decide +kernel
theorem dX3_sellOverdue_23 : decode cX3_sellOverdue 23 = .ok (.invokevirtual 65, 3) := by decide +kernel
theorem dX3_sellOverdue_26 : decode cX3_sellOverdue 26 = .ok (.aload_n 0, 1) := by decide +kernel
theorem dX3_sellOverdue_27 : decode cX3_sellOverdue 27 = .ok (.iload_n 1, 1) := by decide +kernel
theorem dX3_sellOverdue_28 : decode cX3_sellOverdue 28 = .ok (.invokevirtual 69, 3) := by decide +kernel
theorem dX3_sellOverdue_31 : decode cX3_sellOverdue 31 = .ok (.isub, 1) := by decide +kernel
theorem dX3_sellOverdue_32 : decode cX3_sellOverdue 32 = .ok (.bipush 9, 2) := by decide +kernel
theorem dX3_sellOverdue_34 : decode cX3_sellOverdue 34 = .ok (.if_icmp .lt 7, 3) := by decide +kernel
theorem dX3_sellOverdue_37 : decode cX3_sellOverdue 37 = .ok (.iconst 1, 1) := by decide +kernel
theorem dX3_sellOverdue_38 : decode cX3_sellOverdue 38 = .ok (.goto 4, 3) := by decide +kernel
theorem dX3_sellOverdue_41 : decode cX3_sellOverdue 41 = .ok (.iconst 0, 1) := by decide +kernel
theorem dX3_sellOverdue_42 : decode cX3_sellOverdue 42 = .ok (.istore_n 2, 1) := by decide +kernel
theorem dX3_sellOverdue_43 : decode cX3_sellOverdue 43 = .ok (.iload_n 2, 1) := by decide +kernel
theorem dX3_sellOverdue_44 : decode cX3_sellOverdue 44 = .ok (.ifCond .eq 26, 3) := by decide +kernel
theorem dX3_sellOverdue_47 : decode cX3_sellOverdue 47 = .ok (.aload_n 0, 1) := by decide +kernel
theorem dX3_sellOverdue_48 : decode cX3_sellOverdue 48 = .ok (.getfield 15, 3) := by decide +kernel
theorem dX3_sellOverdue_51 : decode cX3_sellOverdue 51 = .ok (.iload_n 1, 1) := by decide +kernel
theorem dX3_sellOverdue_52 : decode cX3_sellOverdue 52 = .ok (.invokevirtual 59, 3) := by decide +kernel
theorem dX3_sellOverdue_55 : decode cX3_sellOverdue 55 = .ok (.iconst 3, 1) := by decide +kernel
theorem dX3_sellOverdue_56 : decode cX3_sellOverdue 56 = .ok (.if_icmp .eq 14, 3) := by decide +kernel
theorem dX3_sellOverdue_59 : decode cX3_sellOverdue 59 = .ok (.aload_n 0, 1) := by decide +kernel
theorem dX3_sellOverdue_60 : decode cX3_sellOverdue 60 = .ok (.getfield 11, 3) := by decide +kernel
theorem dX3_sellOverdue_63 : decode cX3_sellOverdue 63 = .ok (.iconst 5, 1) := by decide +kernel
theorem dX3_sellOverdue_64 : decode cX3_sellOverdue 64 = .ok (.iload_n 1, 1) := by decide +kernel
theorem dX3_sellOverdue_65 : decode cX3_sellOverdue 65 = .ok (.iadd, 1) := by decide +kernel
theorem dX3_sellOverdue_66 : decode cX3_sellOverdue 66 = .ok (.iconst 2, 1) := by decide +kernel
theorem dX3_sellOverdue_67 : decode cX3_sellOverdue 67 = .ok (.invokestatic 25, 3) := by decide +kernel
theorem dX3_sellOverdue_70 : decode cX3_sellOverdue 70 = .ok (.iinc 1 1, 3) := by decide +kernel
theorem dX3_sellOverdue_73 : decode cX3_sellOverdue 73 = .ok (.goto (-71), 3) := by decide +kernel
theorem dX3_sellOverdue_76 : decode cX3_sellOverdue 76 = .ok (.return_, 1) := by decide +kernel
theorem dX3_deedsInTheEnd_0 : decode cX3_deedsInTheEnd 0 = .ok (.iconst 0, 1) := by decide +kernel
theorem dX3_deedsInTheEnd_1 : decode cX3_deedsInTheEnd 1 = .ok (.istore_n 1, 1) := by decide +kernel
theorem dX3_deedsInTheEnd_2 : decode cX3_deedsInTheEnd 2 = .ok (.iload_n 1, 1) := by decide +kernel
theorem dX3_deedsInTheEnd_3 : decode cX3_deedsInTheEnd 3 = .ok (.bipush 20, 2) := by decide +kernel
theorem dX3_deedsInTheEnd_5 : decode cX3_deedsInTheEnd 5 = .ok (.if_icmp .ge 14, 3) := by decide +kernel
theorem dX3_deedsInTheEnd_8 : decode cX3_deedsInTheEnd 8 = .ok (.aload_n 0, 1) := by decide +kernel
theorem dX3_deedsInTheEnd_9 : decode cX3_deedsInTheEnd 9 = .ok (.invokevirtual 117, 3) := by decide +kernel
theorem dX3_deedsInTheEnd_12 : decode cX3_deedsInTheEnd 12 = .ok (.pop, 1) := by decide +kernel
theorem dX3_deedsInTheEnd_13 : decode cX3_deedsInTheEnd 13 = .ok (.iinc 1 1, 3) := by decide +kernel
theorem dX3_deedsInTheEnd_16 : decode cX3_deedsInTheEnd 16 = .ok (.goto (-14), 3) := by decide +kernel
theorem dX3_deedsInTheEnd_19 : decode cX3_deedsInTheEnd 19 = .ok (.aload_n 0, 1) := by decide +kernel
theorem dX3_deedsInTheEnd_20 : decode cX3_deedsInTheEnd 20 = .ok (.iconst 1, 1) := by decide +kernel
theorem dX3_deedsInTheEnd_21 : decode cX3_deedsInTheEnd 21 = .ok (.invokevirtual 120, 3) := by decide +kernel
theorem dX3_deedsInTheEnd_24 : decode cX3_deedsInTheEnd 24 = .ok (.ireturn, 1) := by decide +kernel
theorem dX3_sellAllBut_0 : decode cX3_sellAllBut 0 = .ok (.iconst 0, 1) := by decide +kernel
theorem dX3_sellAllBut_1 : decode cX3_sellAllBut 1 = .ok (.istore_n 2, 1) := by decide +kernel
theorem dX3_sellAllBut_2 : decode cX3_sellAllBut 2 = .ok (.iload_n 2, 1) := by decide +kernel
theorem dX3_sellAllBut_3 : decode cX3_sellAllBut 3 = .ok (.aload_n 0, 1) := by decide +kernel
theorem dX3_sellAllBut_4 : decode cX3_sellAllBut 4 = .ok (.getfield 15, 3) := by decide +kernel
theorem dX3_sellAllBut_7 : decode cX3_sellAllBut 7 = .ok (.getfield 47, 3) := by decide +kernel
theorem dX3_sellAllBut_10 : decode cX3_sellAllBut 10 = .ok (.if_icmp .ge 25, 3) := by decide +kernel
theorem dX3_sellAllBut_13 : decode cX3_sellAllBut 13 = .ok (.iload_n 2, 1) := by decide +kernel
theorem dX3_sellAllBut_14 : decode cX3_sellAllBut 14 = .ok (.iload_n 1, 1) := by decide +kernel
theorem dX3_sellAllBut_15 : decode cX3_sellAllBut 15 = .ok (.if_icmp .eq 14, 3) := by decide +kernel
theorem dX3_sellAllBut_18 : decode cX3_sellAllBut 18 = .ok (.aload_n 0, 1) := by decide +kernel
theorem dX3_sellAllBut_19 : decode cX3_sellAllBut 19 = .ok (.getfield 11, 3) := by decide +kernel
theorem dX3_sellAllBut_22 : decode cX3_sellAllBut 22 = .ok (.iconst 5, 1) := by decide +kernel
theorem dX3_sellAllBut_23 : decode cX3_sellAllBut 23 = .ok (.iload_n 2, 1) := by decide +kernel
theorem dX3_sellAllBut_24 : decode cX3_sellAllBut 24 = .ok (.iadd, 1) := by decide +kernel
theorem dX3_sellAllBut_25 : decode cX3_sellAllBut 25 = .ok (.iconst 2, 1) := by decide +kernel
theorem dX3_sellAllBut_26 : decode cX3_sellAllBut 26 = .ok (.invokestatic 25, 3) := by decide +kernel
theorem dX3_sellAllBut_29 : decode cX3_sellAllBut 29 = .ok (.iinc 2 1, 3) := by decide +kernel
theorem dX3_sellAllBut_32 : decode cX3_sellAllBut 32 = .ok (.goto (-30), 3) := by decide +kernel
theorem dX3_sellAllBut_35 : decode cX3_sellAllBut 35 = .ok (.return_, 1) := by decide +kernel
theorem dX3_settle_0 : decode cX3_settle 0 = .ok (.iconst 0, 1) := by decide +kernel
theorem dX3_settle_1 : decode cX3_settle 1 = .ok (.istore_n 2, 1) := by decide +kernel
theorem dX3_settle_2 : decode cX3_settle 2 = .ok (.iload_n 2, 1) := by decide +kernel
theorem dX3_settle_3 : decode cX3_settle 3 = .ok (.aload_n 0, 1) := by decide +kernel
theorem dX3_settle_4 : decode cX3_settle 4 = .ok (.getfield 15, 3) := by decide +kernel
theorem dX3_settle_7 : decode cX3_settle 7 = .ok (.getfield 47, 3) := by decide +kernel
theorem dX3_settle_10 : decode cX3_settle 10 = .ok (.if_icmp .ge 42, 3) := by decide +kernel
theorem dX3_settle_13 : decode cX3_settle 13 = .ok (.aload_n 0, 1) := by decide +kernel
theorem dX3_settle_14 : decode cX3_settle 14 = .ok (.iload_n 2, 1) := by decide +kernel
theorem dX3_settle_15 : decode cX3_settle 15 = .ok (.invokevirtual 50, 3) := by decide +kernel
theorem dX3_settle_18 : decode cX3_settle 18 = .ok (.iconst 1, 1) := by decide +kernel
theorem dX3_settle_19 : decode cX3_settle 19 = .ok (.if_icmp .ne 27, 3) := by decide +kernel
theorem dX3_settle_22 : decode cX3_settle 22 = .ok (.aload_n 0, 1) := by decide +kernel
theorem dX3_settle_23 : decode cX3_settle 23 = .ok (.getfield 11, 3) := by decide +kernel
theorem dX3_settle_26 : decode cX3_settle 26 = .ok (.iconst 5, 1) := by decide +kernel
theorem dX3_settle_27 : decode cX3_settle 27 = .ok (.iload_n 2, 1) := by decide +kernel
theorem dX3_settle_28 : decode cX3_settle 28 = .ok (.iadd, 1) := by decide +kernel
theorem dX3_settle_29 : decode cX3_settle 29 = .ok (.iload_n 1, 1) := by decide +kernel
theorem dX3_settle_30 : decode cX3_settle 30 = .ok (.iload_n 2, 1) := by decide +kernel
theorem dX3_settle_31 : decode cX3_settle 31 = .ok (.ishr, 1) := by decide +kernel
theorem dX3_settle_32 : decode cX3_settle 32 = .ok (.iconst 1, 1) := by decide +kernel
theorem dX3_settle_33 : decode cX3_settle 33 = .ok (.iand, 1) := by decide +kernel
theorem dX3_settle_34 : decode cX3_settle 34 = .ok (.iconst 1, 1) := by decide +kernel
theorem dX3_settle_35 : decode cX3_settle 35 = .ok (.if_icmp .ne 7, 3) := by decide +kernel
theorem dX3_settle_38 : decode cX3_settle 38 = .ok (.iconst 2, 1) := by decide +kernel
theorem dX3_settle_39 : decode cX3_settle 39 = .ok (.goto 4, 3) := by decide +kernel
theorem dX3_settle_42 : decode cX3_settle 42 = .ok (.iconst 0, 1) := by decide +kernel
theorem dX3_settle_43 : decode cX3_settle 43 = .ok (.invokestatic 25, 3) := by decide +kernel
theorem dX3_settle_46 : decode cX3_settle 46 = .ok (.iinc 2 1, 3) := by decide +kernel
theorem dX3_settle_49 : decode cX3_settle 49 = .ok (.goto (-47), 3) := by decide +kernel
theorem dX3_settle_52 : decode cX3_settle 52 = .ok (.return_, 1) := by decide +kernel
theorem dX3_goesThrough_0 : decode cX3_goesThrough 0 = .ok (.iload_n 1, 1) := by decide +kernel
theorem dX3_goesThrough_1 : decode cX3_goesThrough 1 = .ok (.iconst 3, 1) := by decide +kernel
theorem dX3_goesThrough_2 : decode cX3_goesThrough 2 = .ok (.if_icmp .ne 10, 3) := by decide +kernel
theorem dX3_goesThrough_5 : decode cX3_goesThrough 5 = .ok (.aload_n 0, 1) := by decide +kernel
theorem dX3_goesThrough_6 : decode cX3_goesThrough 6 = .ok (.iload_n 2, 1) := by decide +kernel
theorem dX3_goesThrough_7 : decode cX3_goesThrough 7 = .ok (.iload_n 3, 1) := by decide +kernel
theorem dX3_goesThrough_8 : decode cX3_goesThrough 8 = .ok (.invokevirtual 123, 3) := by decide +kernel
theorem dX3_goesThrough_11 : decode cX3_goesThrough 11 = .ok (.ireturn, 1) := by decide +kernel
theorem dX3_goesThrough_12 : decode cX3_goesThrough 12 = .ok (.iload_n 1, 1) := by decide +kernel
theorem dX3_goesThrough_13 : decode cX3_goesThrough 13 = .ok (.iconst 5, 1) := by decide +kernel
theorem dX3_goesThrough_14 : decode cX3_goesThrough 14 = .ok (.if_icmp .ne 29, 3) := by decide +kernel
theorem dX3_goesThrough_17 : decode cX3_goesThrough 17 = .ok (.aload_n 0, 1) := by decide +kernel
theorem dX3_goesThrough_18 : decode cX3_goesThrough 18 = .ok (.getfield 15, 3) := by decide +kernel
theorem dX3_goesThrough_21 : decode cX3_goesThrough 21 = .ok (.iload_n 2, 1) := by decide +kernel
theorem dX3_goesThrough_22 : decode cX3_goesThrough 22 = .ok (.invokevirtual 99, 3) := by decide +kernel
theorem dX3_goesThrough_25 : decode cX3_goesThrough 25 = .ok (.ifCond .eq 16, 3) := by decide +kernel
theorem dX3_goesThrough_28 : decode cX3_goesThrough 28 = .ok (.aload_n 0, 1) := by decide +kernel
theorem dX3_goesThrough_29 : decode cX3_goesThrough 29 = .ok (.iload_n 2, 1) := by decide +kernel
theorem dX3_goesThrough_30 : decode cX3_goesThrough 30 = .ok (.invokevirtual 44, 3) := by decide +kernel
theorem dX3_goesThrough_33 : decode cX3_goesThrough 33 = .ok (.iload_n 3, 1) := by decide +kernel
theorem dX3_goesThrough_34 : decode cX3_goesThrough 34 = .ok (.if_icmp .lt 7, 3) := by decide +kernel
theorem dX3_goesThrough_37 : decode cX3_goesThrough 37 = .ok (.iconst 1, 1) := by decide +kernel
theorem dX3_goesThrough_38 : decode cX3_goesThrough 38 = .ok (.goto 4, 3) := by decide +kernel
theorem dX3_goesThrough_41 : decode cX3_goesThrough 41 = .ok (.iconst 0, 1) := by decide +kernel
theorem dX3_goesThrough_42 : decode cX3_goesThrough 42 = .ok (.ireturn, 1) := by decide +kernel
theorem dX3_goesThrough_43 : decode cX3_goesThrough 43 = .ok (.iload_n 2, 1) := by decide +kernel
theorem dX3_goesThrough_44 : decode cX3_goesThrough 44 = .ok (.ifCond .eq 5, 3) := by decide +kernel
theorem dX3_goesThrough_47 : decode cX3_goesThrough 47 = .ok (.iconst 0, 1) := by decide +kernel
theorem dX3_goesThrough_48 : decode cX3_goesThrough 48 = .ok (.ireturn, 1) := by decide +kernel
theorem dX3_goesThrough_49 : decode cX3_goesThrough 49 = .ok (.iload_n 1, 1) := by decide +kernel
theorem dX3_goesThrough_50 : decode cX3_goesThrough 50 = .ok (.tableswitch 91 0 4 #[34, 53, 59, 91, 65], 34) := by decide +kernel
theorem dX3_goesThrough_84 : decode cX3_goesThrough 84 = .ok (.iload_n 3, 1) := by decide +kernel
theorem dX3_goesThrough_85 : decode cX3_goesThrough 85 = .ok (.ifCond .ne 8, 3) := by decide +kernel
theorem dX3_goesThrough_88 : decode cX3_goesThrough 88 = .ok (.aload_n 0, 1) := by decide +kernel
theorem dX3_goesThrough_89 : decode cX3_goesThrough 89 = .ok (.invokevirtual 117, 3) := by decide +kernel
theorem dX3_goesThrough_92 : decode cX3_goesThrough 92 = .ok (.pop, 1) := by decide +kernel
theorem dX3_goesThrough_93 : decode cX3_goesThrough 93 = .ok (.iload_n 3, 1) := by decide +kernel
theorem dX3_goesThrough_94 : decode cX3_goesThrough 94 = .ok (.ifCond .ne 7, 3) := by decide +kernel
theorem dX3_goesThrough_97 : decode cX3_goesThrough 97 = .ok (.iconst 1, 1) := by decide +kernel
theorem dX3_goesThrough_98 : decode cX3_goesThrough 98 = .ok (.goto 4, 3) := by decide +kernel
theorem dX3_goesThrough_101 : decode cX3_goesThrough 101 = .ok (.iconst 0, 1) := by decide +kernel
theorem dX3_goesThrough_102 : decode cX3_goesThrough 102 = .ok (.ireturn, 1) := by decide +kernel
theorem dX3_goesThrough_103 : decode cX3_goesThrough 103 = .ok (.aload_n 0, 1) := by decide +kernel
theorem dX3_goesThrough_104 : decode cX3_goesThrough 104 = .ok (.iload_n 3, 1) := by decide +kernel
theorem dX3_goesThrough_105 : decode cX3_goesThrough 105 = .ok (.invokevirtual 127, 3) := by decide +kernel
theorem dX3_goesThrough_108 : decode cX3_goesThrough 108 = .ok (.ireturn, 1) := by decide +kernel
theorem dX3_goesThrough_109 : decode cX3_goesThrough 109 = .ok (.aload_n 0, 1) := by decide +kernel
theorem dX3_goesThrough_110 : decode cX3_goesThrough 110 = .ok (.iload_n 3, 1) := by decide +kernel
theorem dX3_goesThrough_111 : decode cX3_goesThrough 111 = .ok (.invokevirtual 130, 3) := by decide +kernel
theorem dX3_goesThrough_114 : decode cX3_goesThrough 114 = .ok (.ireturn, 1) := by decide +kernel
theorem dX3_goesThrough_115 : decode cX3_goesThrough 115 = .ok (.aload_n 0, 1) := by decide +kernel
theorem dX3_goesThrough_116 : decode cX3_goesThrough 116 = .ok (.getfield 15, 3) := by decide +kernel
theorem dX3_goesThrough_119 : decode cX3_goesThrough 119 = .ok (.iload_n 3, 1) := by decide +kernel
theorem dX3_goesThrough_120 : decode cX3_goesThrough 120 = .ok (.invokevirtual 133, 3) := by decide +kernel
theorem dX3_goesThrough_123 : decode cX3_goesThrough 123 = .ok (.ifCond .eq 16, 3) := by decide +kernel
theorem dX3_goesThrough_126 : decode cX3_goesThrough 126 = .ok (.aload_n 0, 1) := by decide +kernel
theorem dX3_goesThrough_127 : decode cX3_goesThrough 127 = .ok (.iload_n 3, 1) := by decide +kernel
theorem dX3_goesThrough_128 : decode cX3_goesThrough 128 = .ok (.invokevirtual 56, 3) := by decide +kernel
theorem dX3_goesThrough_131 : decode cX3_goesThrough 131 = .ok (.iconst 1, 1) := by decide +kernel
theorem dX3_goesThrough_132 : decode cX3_goesThrough 132 = .ok (.if_icmp .ne 7, 3) := by decide +kernel
theorem dX3_goesThrough_135 : decode cX3_goesThrough 135 = .ok (.iconst 1, 1) := by decide +kernel
theorem dX3_goesThrough_136 : decode cX3_goesThrough 136 = .ok (.goto 4, 3) := by decide +kernel
theorem dX3_goesThrough_139 : decode cX3_goesThrough 139 = .ok (.iconst 0, 1) := by decide +kernel
theorem dX3_goesThrough_140 : decode cX3_goesThrough 140 = .ok (.ireturn, 1) := by decide +kernel
theorem dX3_goesThrough_141 : decode cX3_goesThrough 141 = .ok (.iconst 0, 1) := by decide +kernel
theorem dX3_goesThrough_142 : decode cX3_goesThrough 142 = .ok (.ireturn, 1) := by decide +kernel
theorem dX3_chances_0 : decode cX3_chances 0 = .ok (.iload_n 1, 1) := by decide +kernel
theorem dX3_chances_1 : decode cX3_chances 1 = .ok (.iconst 5, 1) := by decide +kernel
theorem dX3_chances_2 : decode cX3_chances 2 = .ok (.if_icmp .ge 12, 3) := by decide +kernel
theorem dX3_chances_5 : decode cX3_chances 5 = .ok (.aload_n 0, 1) := by decide +kernel
theorem dX3_chances_6 : decode cX3_chances 6 = .ok (.iload_n 1, 1) := by decide +kernel
theorem dX3_chances_7 : decode cX3_chances 7 = .ok (.invokevirtual 127, 3) := by decide +kernel
theorem dX3_chances_10 : decode cX3_chances 10 = .ok (.pop, 1) := by decide +kernel
theorem dX3_chances_11 : decode cX3_chances 11 = .ok (.goto 44, 3) := by decide +kernel
theorem dX3_chances_14 : decode cX3_chances 14 = .ok (.iload_n 1, 1) := by decide +kernel
theorem dX3_chances_15 : decode cX3_chances 15 = .ok (.bipush 10, 2) := by decide +kernel
theorem dX3_chances_17 : decode cX3_chances 17 = .ok (.if_icmp .ge 14, 3) := by decide +kernel
theorem dX3_chances_20 : decode cX3_chances 20 = .ok (.aload_n 0, 1) := by decide +kernel
theorem dX3_chances_21 : decode cX3_chances 21 = .ok (.iload_n 1, 1) := by decide +kernel
theorem dX3_chances_22 : decode cX3_chances 22 = .ok (.iconst 5, 1) := by decide +kernel
theorem dX3_chances_23 : decode cX3_chances 23 = .ok (.isub, 1) := by decide +kernel
theorem dX3_chances_24 : decode cX3_chances 24 = .ok (.invokevirtual 130, 3) := by decide +kernel
theorem dX3_chances_27 : decode cX3_chances 27 = .ok (.pop, 1) := by decide +kernel
theorem dX3_chances_28 : decode cX3_chances 28 = .ok (.goto 27, 3) := by decide +kernel
theorem dX3_chances_31 : decode cX3_chances 31 = .ok (.iload_n 1, 1) := by decide +kernel
theorem dX3_chances_32 : decode cX3_chances 32 = .ok (.bipush 13, 2) := by decide +kernel
theorem dX3_chances_34 : decode cX3_chances 34 = .ok (.if_icmp .ge 16, 3) := by decide +kernel
theorem dX3_chances_37 : decode cX3_chances 37 = .ok (.aload_n 0, 1) := by decide +kernel
theorem dX3_chances_38 : decode cX3_chances 38 = .ok (.iload_n 1, 1) := by decide +kernel
theorem dX3_chances_39 : decode cX3_chances 39 = .ok (.bipush 10, 2) := by decide +kernel
theorem dX3_chances_41 : decode cX3_chances 41 = .ok (.isub, 1) := by decide +kernel
theorem dX3_chances_42 : decode cX3_chances 42 = .ok (.iconst 2, 1) := by decide +kernel
theorem dX3_chances_43 : decode cX3_chances 43 = .ok (.invokevirtual 123, 3) := by decide +kernel
theorem dX3_chances_46 : decode cX3_chances 46 = .ok (.pop, 1) := by decide +kernel
theorem dX3_chances_47 : decode cX3_chances 47 = .ok (.goto 8, 3) := by decide +kernel
theorem dX3_chances_50 : decode cX3_chances 50 = .ok (.aload_n 0, 1) := by decide +kernel
theorem dX3_chances_51 : decode cX3_chances 51 = .ok (.invokevirtual 117, 3) := by decide +kernel
theorem dX3_chances_54 : decode cX3_chances 54 = .ok (.pop, 1) := by decide +kernel
theorem dX3_chances_55 : decode cX3_chances 55 = .ok (.return_, 1) := by decide +kernel
theorem dX4_init_0 : decode cX4_init 0 = .ok (.aload_n 0, 1) := by decide +kernel
theorem dX4_init_1 : decode cX4_init 1 = .ok (.invokespecial 3, 3) := by decide +kernel
theorem dX4_init_4 : decode cX4_init 4 = .ok (.aload_n 0, 1) := by decide +kernel
theorem dX4_init_5 : decode cX4_init 5 = .ok (.bipush 48, 2) := by decide +kernel
theorem dX4_init_7 : decode cX4_init 7 = .ok (.newarray .int, 2) := by decide +kernel
theorem dX4_init_9 : decode cX4_init 9 = .ok (.putfield 9, 3) := by decide +kernel
theorem dX4_init_12 : decode cX4_init 12 = .ok (.return_, 1) := by decide +kernel
theorem dX4_append_0 : decode cX4_append 0 = .ok (.aload_n 0, 1) := by decide +kernel
theorem dX4_append_1 : decode cX4_append 1 = .ok (.getfield 9, 3) := by decide +kernel
theorem dX4_append_4 : decode cX4_append 4 = .ok (.aload_n 0, 1) := by decide +kernel
theorem dX4_append_5 : decode cX4_append 5 = .ok (.getfield 15, 3) := by decide +kernel
theorem dX4_append_8 : decode cX4_append 8 = .ok (.iload_n 1, 1) := by decide +kernel
theorem dX4_append_9 : decode cX4_append 9 = .ok (.invokestatic 19, 3) := by decide +kernel
theorem dX4_append_12 : decode cX4_append 12 = .ok (.aload_n 0, 1) := by decide +kernel
theorem dX4_append_13 : decode cX4_append 13 = .ok (.dup, 1) := by decide +kernel
theorem dX4_append_14 : decode cX4_append 14 = .ok (.getfield 15, 3) := by decide +kernel
theorem dX4_append_17 : decode cX4_append 17 = .ok (.iconst 1, 1) := by decide +kernel
theorem dX4_append_18 : decode cX4_append 18 = .ok (.iadd, 1) := by decide +kernel
theorem dX4_append_19 : decode cX4_append 19 = .ok (.putfield 15, 3) := by decide +kernel
theorem dX4_append_22 : decode cX4_append 22 = .ok (.return_, 1) := by decide +kernel
theorem dX4_readInto_0 : decode cX4_readInto 0 = .ok (.aload_n 1, 1) := by decide +kernel
theorem dX4_readInto_1 : decode cX4_readInto 1 = .ok (.invokevirtual 23, 3) := by decide +kernel
theorem dX4_readInto_4 : decode cX4_readInto 4 = .ok (.aload_n 0, 1) := by decide +kernel
theorem dX4_readInto_5 : decode cX4_readInto 5 = .ok (.iconst 0, 1) := by decide +kernel
theorem dX4_readInto_6 : decode cX4_readInto 6 = .ok (.putfield 28, 3) := by decide +kernel
theorem dX4_readInto_9 : decode cX4_readInto 9 = .ok (.aload_n 0, 1) := by decide +kernel
theorem dX4_readInto_10 : decode cX4_readInto 10 = .ok (.invokevirtual 31, 3) := by decide +kernel
theorem dX4_readInto_13 : decode cX4_readInto 13 = .ok (.bipush 66, 2) := by decide +kernel
theorem dX4_readInto_15 : decode cX4_readInto 15 = .ok (.if_icmp .eq 8, 3) := by decide +kernel
theorem dX4_readInto_18 : decode cX4_readInto 18 = .ok (.aload_n 0, 1) := by decide +kernel
theorem dX4_readInto_19 : decode cX4_readInto 19 = .ok (.getfield 28, 3) := by decide +kernel
theorem dX4_readInto_22 : decode cX4_readInto 22 = .ok (.ireturn, 1) := by decide +kernel
theorem dX4_readInto_23 : decode cX4_readInto 23 = .ok (.aload_n 0, 1) := by decide +kernel
theorem dX4_readInto_24 : decode cX4_readInto 24 = .ok (.dup, 1) := by decide +kernel
theorem dX4_readInto_25 : decode cX4_readInto 25 = .ok (.getfield 28, 3) := by decide +kernel
theorem dX4_readInto_28 : decode cX4_readInto 28 = .ok (.iconst 1, 1) := by decide +kernel
theorem dX4_readInto_29 : decode cX4_readInto 29 = .ok (.iadd, 1) := by decide +kernel
theorem dX4_readInto_30 : decode cX4_readInto 30 = .ok (.putfield 28, 3) := by decide +kernel
theorem dX4_readInto_33 : decode cX4_readInto 33 = .ok (.aload_n 0, 1) := by decide +kernel
theorem dX4_readInto_34 : decode cX4_readInto 34 = .ok (.iconst 0, 1) := by decide +kernel
theorem dX4_readInto_35 : decode cX4_readInto 35 = .ok (.bipush 9, 2) := by decide +kernel
theorem dX4_readInto_37 : decode cX4_readInto 37 = .ok (.invokevirtual 35, 3) := by decide +kernel
theorem dX4_readInto_40 : decode cX4_readInto 40 = .ok (.istore_n 2, 1) := by decide +kernel
theorem dX4_readInto_41 : decode cX4_readInto 41 = .ok (.iload_n 2, 1) := by decide +kernel
theorem dX4_readInto_42 : decode cX4_readInto 42 = .ok (.ifCond .ge 8, 3) := by decide +kernel
theorem dX4_readInto_45 : decode cX4_readInto 45 = .ok (.aload_n 0, 1) := by decide +kernel
theorem dX4_readInto_46 : decode cX4_readInto 46 = .ok (.getfield 28, 3) := by decide +kernel
theorem dX4_readInto_49 : decode cX4_readInto 49 = .ok (.ireturn, 1) := by decide +kernel
theorem dX4_readInto_50 : decode cX4_readInto 50 = .ok (.aload_n 1, 1) := by decide +kernel
theorem dX4_readInto_51 : decode cX4_readInto 51 = .ok (.iload_n 2, 1) := by decide +kernel
theorem dX4_readInto_52 : decode cX4_readInto 52 = .ok (.putfield 39, 3) := by decide +kernel
theorem dX4_readInto_55 : decode cX4_readInto 55 = .ok (.iconst 0, 1) := by decide +kernel
theorem dX4_readInto_56 : decode cX4_readInto 56 = .ok (.istore_n 3, 1) := by decide +kernel
theorem dX4_readInto_57 : decode cX4_readInto 57 = .ok (.iload_n 3, 1) := by decide +kernel
theorem dX4_readInto_58 : decode cX4_readInto 58 = .ok (.bipush 48, 2) := by decide +kernel
theorem dX4_readInto_60 : decode cX4_readInto 60 = .ok (.if_icmp .ge 33, 3) := by decide +kernel
theorem dX4_readInto_63 : decode cX4_readInto 63 = .ok (.aload_n 0, 1) := by decide +kernel
theorem dX4_readInto_64 : decode cX4_readInto 64 = .ok (.getfield 28, 3) := by decide +kernel
theorem dX4_readInto_67 : decode cX4_readInto 67 = .ok (.aload_n 0, 1) := by decide +kernel
theorem dX4_readInto_68 : decode cX4_readInto 68 = .ok (.getfield 15, 3) := by decide +kernel
theorem dX4_readInto_71 : decode cX4_readInto 71 = .ok (.if_icmp .ge 22, 3) := by decide +kernel
theorem dX4_readInto_74 : decode cX4_readInto 74 = .ok (.aload_n 0, 1) := by decide +kernel
theorem dX4_readInto_75 : decode cX4_readInto 75 = .ok (.aload_n 1, 1) := by decide +kernel
theorem dX4_readInto_76 : decode cX4_readInto 76 = .ok (.invokevirtual 42, 3) := by decide +kernel
theorem dX4_readInto_79 : decode cX4_readInto 79 = .ok (.ifCond .ne 8, 3) := by decide +kernel
theorem dX4_readInto_82 : decode cX4_readInto 82 = .ok (.aload_n 0, 1) := by decide +kernel
theorem dX4_readInto_83 : decode cX4_readInto 83 = .ok (.getfield 28, 3) := by decide +kernel
theorem dX4_readInto_86 : decode cX4_readInto 86 = .ok (.ireturn, 1) := by decide +kernel
theorem dX4_readInto_87 : decode cX4_readInto 87 = .ok (.iinc 3 1, 3) := by decide +kernel
theorem dX4_readInto_90 : decode cX4_readInto 90 = .ok (.goto (-33), 3) := by decide +kernel
theorem dX4_readInto_93 : decode cX4_readInto 93 = .ok (.bipush (-9), 2) := by decide +kernel
theorem dX4_readInto_95 : decode cX4_readInto 95 = .ok (.ireturn, 1) := by decide +kernel
theorem dX4_readThing_0 : decode cX4_readThing 0 = .ok (.aload_n 0, 1) := by decide +kernel
theorem dX4_readThing_1 : decode cX4_readThing 1 = .ok (.invokevirtual 31, 3) := by decide +kernel
theorem dX4_readThing_4 : decode cX4_readThing 4 = .ok (.istore_n 2, 1) := by decide +kernel
theorem dX4_readThing_5 : decode cX4_readThing 5 = .ok (.iload_n 2, 1) := by decide +kernel
theorem dX4_readThing_6 : decode cX4_readThing 6 = .ok (.bipush 80, 2) := by decide +kernel
theorem dX4_readThing_8 : decode cX4_readThing 8 = .ok (.if_icmp .ne 27, 3) := by decide +kernel
theorem dX4_readThing_11 : decode cX4_readThing 11 = .ok (.aload_n 1, 1) := by decide +kernel
theorem dX4_readThing_12 : decode cX4_readThing 12 = .ok (.getfield 46, 3) := by decide +kernel
theorem dX4_readThing_15 : decode cX4_readThing 15 = .ok (.iconst 3, 1) := by decide +kernel
theorem dX4_readThing_16 : decode cX4_readThing 16 = .ok (.if_icmp .ge 19, 3) := by decide +kernel
theorem dX4_readThing_19 : decode cX4_readThing 19 = .ok (.aload_n 0, 1) := by decide +kernel
theorem dX4_readThing_20 : decode cX4_readThing 20 = .ok (.dup, 1) := by decide +kernel
theorem dX4_readThing_21 : decode cX4_readThing 21 = .ok (.getfield 28, 3) := by decide +kernel
theorem dX4_readThing_24 : decode cX4_readThing 24 = .ok (.iconst 1, 1) := by decide +kernel
theorem dX4_readThing_25 : decode cX4_readThing 25 = .ok (.iadd, 1) := by decide +kernel
theorem dX4_readThing_26 : decode cX4_readThing 26 = .ok (.putfield 28, 3) := by decide +kernel
theorem dX4_readThing_29 : decode cX4_readThing 29 = .ok (.aload_n 0, 1) := by decide +kernel
theorem dX4_readThing_30 : decode cX4_readThing 30 = .ok (.aload_n 1, 1) := by decide +kernel
theorem dX4_readThing_31 : decode cX4_readThing 31 = .ok (.invokevirtual 49, 3) := by decide +kernel
theorem dX4_readThing_34 : decode cX4_readThing 34 = .ok (.ireturn, 1) := by decide +kernel
theorem dX4_readThing_35 : decode cX4_readThing 35 = .ok (.iload_n 2, 1) := by decide +kernel
theorem dX4_readThing_36 : decode cX4_readThing 36 = .ok (.bipush 81, 2) := by decide +kernel
theorem dX4_readThing_38 : decode cX4_readThing 38 = .ok (.if_icmp .ne 34, 3) := by decide +kernel
theorem dX4_readThing_41 : decode cX4_readThing 41 = .ok (.aload_n 1, 1) := by decide +kernel
theorem dX4_readThing_42 : decode cX4_readThing 42 = .ok (.getfield 52, 3) := by decide +kernel
theorem dX4_readThing_45 : decode cX4_readThing 45 = .ok (.iconst 5, 1) := by decide +kernel
theorem dX4_readThing_46 : decode cX4_readThing 46 = .ok (.if_icmp .ge 26, 3) := by decide +kernel
theorem dX4_readThing_49 : decode cX4_readThing 49 = .ok (.aload_n 1, 1) := by decide +kernel
theorem dX4_readThing_50 : decode cX4_readThing 50 = .ok (.getfield 46, 3) := by decide +kernel
theorem dX4_readThing_53 : decode cX4_readThing 53 = .ok (.ifCond .le 19, 3) := by decide +kernel
theorem dX4_readThing_56 : decode cX4_readThing 56 = .ok (.aload_n 0, 1) := by decide +kernel
theorem dX4_readThing_57 : decode cX4_readThing 57 = .ok (.dup, 1) := by decide +kernel
theorem dX4_readThing_58 : decode cX4_readThing 58 = .ok (.getfield 28, 3) := by decide +kernel
theorem dX4_readThing_61 : decode cX4_readThing 61 = .ok (.iconst 1, 1) := by decide +kernel
theorem dX4_readThing_62 : decode cX4_readThing 62 = .ok (.iadd, 1) := by decide +kernel
theorem dX4_readThing_63 : decode cX4_readThing 63 = .ok (.putfield 28, 3) := by decide +kernel
theorem dX4_readThing_66 : decode cX4_readThing 66 = .ok (.aload_n 0, 1) := by decide +kernel
theorem dX4_readThing_67 : decode cX4_readThing 67 = .ok (.aload_n 1, 1) := by decide +kernel
theorem dX4_readThing_68 : decode cX4_readThing 68 = .ok (.invokevirtual 55, 3) := by decide +kernel
theorem dX4_readThing_71 : decode cX4_readThing 71 = .ok (.ireturn, 1) := by decide +kernel
theorem dX4_readThing_72 : decode cX4_readThing 72 = .ok (.iload_n 2, 1) := by decide +kernel
theorem dX4_readThing_73 : decode cX4_readThing 73 = .ok (.bipush 68, 2) := by decide +kernel
theorem dX4_readThing_75 : decode cX4_readThing 75 = .ok (.if_icmp .ne 34, 3) := by decide +kernel
theorem dX4_readThing_78 : decode cX4_readThing 78 = .ok (.aload_n 1, 1) := by decide +kernel
theorem dX4_readThing_79 : decode cX4_readThing 79 = .ok (.getfield 58, 3) := by decide +kernel
theorem dX4_readThing_82 : decode cX4_readThing 82 = .ok (.iconst 5, 1) := by decide +kernel
theorem dX4_readThing_83 : decode cX4_readThing 83 = .ok (.if_icmp .ge 26, 3) := by decide +kernel
theorem dX4_readThing_86 : decode cX4_readThing 86 = .ok (.aload_n 1, 1) := by decide +kernel
theorem dX4_readThing_87 : decode cX4_readThing 87 = .ok (.getfield 52, 3) := by decide +kernel
theorem dX4_readThing_90 : decode cX4_readThing 90 = .ok (.ifCond .le 19, 3) := by decide +kernel
theorem dX4_readThing_93 : decode cX4_readThing 93 = .ok (.aload_n 0, 1) := by decide +kernel
theorem dX4_readThing_94 : decode cX4_readThing 94 = .ok (.dup, 1) := by decide +kernel
theorem dX4_readThing_95 : decode cX4_readThing 95 = .ok (.getfield 28, 3) := by decide +kernel
theorem dX4_readThing_98 : decode cX4_readThing 98 = .ok (.iconst 1, 1) := by decide +kernel
theorem dX4_readThing_99 : decode cX4_readThing 99 = .ok (.iadd, 1) := by decide +kernel
theorem dX4_readThing_100 : decode cX4_readThing 100 = .ok (.putfield 28, 3) := by decide +kernel
theorem dX4_readThing_103 : decode cX4_readThing 103 = .ok (.aload_n 0, 1) := by decide +kernel
theorem dX4_readThing_104 : decode cX4_readThing 104 = .ok (.aload_n 1, 1) := by decide +kernel
theorem dX4_readThing_105 : decode cX4_readThing 105 = .ok (.invokevirtual 61, 3) := by decide +kernel
theorem dX4_readThing_108 : decode cX4_readThing 108 = .ok (.ireturn, 1) := by decide +kernel
theorem dX4_readThing_109 : decode cX4_readThing 109 = .ok (.iconst 0, 1) := by decide +kernel
theorem dX4_readThing_110 : decode cX4_readThing 110 = .ok (.ireturn, 1) := by decide +kernel
theorem dX4_readPerson_0 : decode cX4_readPerson 0 = .ok (.aload_n 0, 1) := by decide +kernel
theorem dX4_readPerson_1 : decode cX4_readPerson 1 = .ok (.iconst 0, 1) := by decide +kernel
theorem dX4_readPerson_2 : decode cX4_readPerson 2 = .ok (.bipush 9, 2) := by decide +kernel
theorem dX4_readPerson_4 : decode cX4_readPerson 4 = .ok (.invokevirtual 35, 3) := by decide +kernel
theorem dX4_readPerson_7 : decode cX4_readPerson 7 = .ok (.istore_n 2, 1) := by decide +kernel
theorem dX4_readPerson_8 : decode cX4_readPerson 8 = .ok (.iload_n 2, 1) := by decide +kernel
theorem dX4_readPerson_9 : decode cX4_readPerson 9 = .ok (.ifCond .ge 5, 3) := by decide +kernel
theorem dX4_readPerson_12 : decode cX4_readPerson 12 = .ok (.iconst 0, 1) := by decide +kernel
theorem dX4_readPerson_13 : decode cX4_readPerson 13 = .ok (.ireturn, 1) := by decide +kernel
theorem dX4_readPerson_14 : decode cX4_readPerson 14 = .ok (.aload_n 1, 1) := by decide +kernel
theorem dX4_readPerson_15 : decode cX4_readPerson 15 = .ok (.iload_n 2, 1) := by decide +kernel
theorem dX4_readPerson_16 : decode cX4_readPerson 16 = .ok (.invokevirtual 64, 3) := by decide +kernel
theorem dX4_readPerson_19 : decode cX4_readPerson 19 = .ok (.iconst 1, 1) := by decide +kernel
theorem dX4_readPerson_20 : decode cX4_readPerson 20 = .ok (.ireturn, 1) := by decide +kernel
theorem dX4_readQuality_0 : decode cX4_readQuality 0 = .ok (.aload_n 0, 1) := by decide +kernel
theorem dX4_readQuality_1 : decode cX4_readQuality 1 = .ok (.iconst 0, 1) := by decide +kernel
theorem dX4_readQuality_2 : decode cX4_readQuality 2 = .ok (.aload_n 1, 1) := by decide +kernel
theorem dX4_readQuality_3 : decode cX4_readQuality 3 = .ok (.getfield 46, 3) := by decide +kernel
theorem dX4_readQuality_6 : decode cX4_readQuality 6 = .ok (.iconst 1, 1) := by decide +kernel
theorem dX4_readQuality_7 : decode cX4_readQuality 7 = .ok (.isub, 1) := by decide +kernel
theorem dX4_readQuality_8 : decode cX4_readQuality 8 = .ok (.invokevirtual 35, 3) := by decide +kernel
theorem dX4_readQuality_11 : decode cX4_readQuality 11 = .ok (.istore_n 2, 1) := by decide +kernel
theorem dX4_readQuality_12 : decode cX4_readQuality 12 = .ok (.iload_n 2, 1) := by decide +kernel
theorem dX4_readQuality_13 : decode cX4_readQuality 13 = .ok (.ifCond .ge 7, 3) := by decide +kernel
theorem dX4_readQuality_16 : decode cX4_readQuality 16 = .ok (.iconst (-1), 1) := by decide +kernel
theorem dX4_readQuality_17 : decode cX4_readQuality 17 = .ok (.goto 10, 3) := by decide +kernel
theorem dX4_readQuality_20 : decode cX4_readQuality 20 = .ok (.aload_n 0, 1) := by decide +kernel
theorem dX4_readQuality_21 : decode cX4_readQuality 21 = .ok (.iconst 1, 1) := by decide +kernel
theorem dX4_readQuality_22 : decode cX4_readQuality 22 = .ok (.bipush 9, 2) := by decide +kernel
theorem dX4_readQuality_24 : decode cX4_readQuality 24 = .ok (.invokevirtual 35, 3) := by decide +kernel
theorem dX4_readQuality_27 : decode cX4_readQuality 27 = .ok (.istore_n 3, 1) := by decide +kernel
theorem dX4_readQuality_28 : decode cX4_readQuality 28 = .ok (.iload_n 3, 1) := by decide +kernel
theorem dX4_readQuality_29 : decode cX4_readQuality 29 = .ok (.ifCond .ge 7, 3) := by decide +kernel
theorem dX4_readQuality_32 : decode cX4_readQuality 32 = .ok (.iconst (-1), 1) := by decide +kernel
theorem dX4_readQuality_33 : decode cX4_readQuality 33 = .ok (.goto 9, 3) := by decide +kernel
theorem dX4_readQuality_36 : decode cX4_readQuality 36 = .ok (.aload_n 0, 1) := by decide +kernel
theorem dX4_readQuality_37 : decode cX4_readQuality 37 = .ok (.iconst 0, 1) := by decide +kernel
theorem dX4_readQuality_38 : decode cX4_readQuality 38 = .ok (.iconst 3, 1) := by decide +kernel
theorem dX4_readQuality_39 : decode cX4_readQuality 39 = .ok (.invokevirtual 35, 3) := by decide +kernel
theorem dX4_readQuality_42 : decode cX4_readQuality 42 = .ok (.istore 4, 2) := by decide +kernel
theorem dX4_readQuality_44 : decode cX4_readQuality 44 = .ok (.iload 4, 2) := by decide +kernel
theorem dX4_readQuality_46 : decode cX4_readQuality 46 = .ok (.ifCond .ge 5, 3) := by decide +kernel
theorem dX4_readQuality_49 : decode cX4_readQuality 49 = .ok (.iconst 0, 1) := by decide +kernel
theorem dX4_readQuality_50 : decode cX4_readQuality 50 = .ok (.ireturn, 1) := by decide +kernel
theorem dX4_readQuality_51 : decode cX4_readQuality 51 = .ok (.aload_n 1, 1) := by decide +kernel
theorem dX4_readQuality_52 : decode cX4_readQuality 52 = .ok (.iload_n 2, 1) := by decide +kernel
theorem dX4_readQuality_53 : decode cX4_readQuality 53 = .ok (.iload_n 3, 1) := by decide +kernel
theorem dX4_readQuality_54 : decode cX4_readQuality 54 = .ok (.iload 4, 2) := by decide +kernel
theorem dX4_readQuality_56 : decode cX4_readQuality 56 = .ok (.invokevirtual 68, 3) := by decide +kernel
theorem dX4_readQuality_59 : decode cX4_readQuality 59 = .ok (.iconst 1, 1) := by decide +kernel
theorem dX4_readQuality_60 : decode cX4_readQuality 60 = .ok (.ireturn, 1) := by decide +kernel
theorem dX4_readDeed_0 : decode cX4_readDeed 0 = .ok (.aload_n 0, 1) := by decide +kernel
theorem dX4_readDeed_1 : decode cX4_readDeed 1 = .ok (.iconst 0, 1) := by decide +kernel
theorem dX4_readDeed_2 : decode cX4_readDeed 2 = .ok (.aload_n 1, 1) := by decide +kernel
theorem dX4_readDeed_3 : decode cX4_readDeed 3 = .ok (.getfield 52, 3) := by decide +kernel
theorem dX4_readDeed_6 : decode cX4_readDeed 6 = .ok (.iconst 1, 1) := by decide +kernel
theorem dX4_readDeed_7 : decode cX4_readDeed 7 = .ok (.isub, 1) := by decide +kernel
theorem dX4_readDeed_8 : decode cX4_readDeed 8 = .ok (.invokevirtual 35, 3) := by decide +kernel
theorem dX4_readDeed_11 : decode cX4_readDeed 11 = .ok (.istore_n 2, 1) := by decide +kernel
theorem dX4_readDeed_12 : decode cX4_readDeed 12 = .ok (.iload_n 2, 1) := by decide +kernel
theorem dX4_readDeed_13 : decode cX4_readDeed 13 = .ok (.ifCond .ge 7, 3) := by decide +kernel
theorem dX4_readDeed_16 : decode cX4_readDeed 16 = .ok (.iconst (-1), 1) := by decide +kernel
theorem dX4_readDeed_17 : decode cX4_readDeed 17 = .ok (.goto 10, 3) := by decide +kernel
theorem dX4_readDeed_20 : decode cX4_readDeed 20 = .ok (.aload_n 0, 1) := by decide +kernel
theorem dX4_readDeed_21 : decode cX4_readDeed 21 = .ok (.iconst 0, 1) := by decide +kernel
theorem dX4_readDeed_22 : decode cX4_readDeed 22 = .ok (.bipush 9, 2) := by decide +kernel
theorem dX4_readDeed_24 : decode cX4_readDeed 24 = .ok (.invokevirtual 35, 3) := by decide +kernel
theorem dX4_readDeed_27 : decode cX4_readDeed 27 = .ok (.istore_n 3, 1) := by decide +kernel
theorem dX4_readDeed_28 : decode cX4_readDeed 28 = .ok (.iload_n 3, 1) := by decide +kernel
theorem dX4_readDeed_29 : decode cX4_readDeed 29 = .ok (.ifCond .ge 7, 3) := by decide +kernel
theorem dX4_readDeed_32 : decode cX4_readDeed 32 = .ok (.iconst (-1), 1) := by decide +kernel
theorem dX4_readDeed_33 : decode cX4_readDeed 33 = .ok (.goto 10, 3) := by decide +kernel
theorem dX4_readDeed_36 : decode cX4_readDeed 36 = .ok (.aload_n 0, 1) := by decide +kernel
theorem dX4_readDeed_37 : decode cX4_readDeed 37 = .ok (.iconst 0, 1) := by decide +kernel
theorem dX4_readDeed_38 : decode cX4_readDeed 38 = .ok (.bipush 9, 2) := by decide +kernel
theorem dX4_readDeed_40 : decode cX4_readDeed 40 = .ok (.invokevirtual 35, 3) := by decide +kernel
theorem dX4_readDeed_43 : decode cX4_readDeed 43 = .ok (.istore 4, 2) := by decide +kernel
theorem dX4_readDeed_45 : decode cX4_readDeed 45 = .ok (.iload 4, 2) := by decide +kernel
theorem dX4_readDeed_47 : decode cX4_readDeed 47 = .ok (.ifCond .ge 5, 3) := by decide +kernel
theorem dX4_readDeed_50 : decode cX4_readDeed 50 = .ok (.iconst 0, 1) := by decide +kernel
theorem dX4_readDeed_51 : decode cX4_readDeed 51 = .ok (.ireturn, 1) := by decide +kernel
theorem dX4_readDeed_52 : decode cX4_readDeed 52 = .ok (.aload_n 1, 1) := by decide +kernel
theorem dX4_readDeed_53 : decode cX4_readDeed 53 = .ok (.iload_n 2, 1) := by decide +kernel
theorem dX4_readDeed_54 : decode cX4_readDeed 54 = .ok (.iload_n 3, 1) := by decide +kernel
theorem dX4_readDeed_55 : decode cX4_readDeed 55 = .ok (.iload 4, 2) := by decide +kernel
theorem dX4_readDeed_57 : decode cX4_readDeed 57 = .ok (.invokevirtual 72, 3) := by decide +kernel
theorem dX4_readDeed_60 : decode cX4_readDeed 60 = .ok (.iconst 1, 1) := by decide +kernel
theorem dX4_readDeed_61 : decode cX4_readDeed 61 = .ok (.ireturn, 1) := by decide +kernel
theorem dX4_upcoming_0 : decode cX4_upcoming 0 = .ok (.aload_n 0, 1) := by decide +kernel
theorem dX4_upcoming_1 : decode cX4_upcoming 1 = .ok (.getfield 28, 3) := by decide +kernel
theorem dX4_upcoming_4 : decode cX4_upcoming 4 = .ok (.aload_n 0, 1) := by decide +kernel
theorem dX4_upcoming_5 : decode cX4_upcoming 5 = .ok (.getfield 15, 3) := by decide +kernel
theorem dX4_upcoming_8 : decode cX4_upcoming 8 = .ok (.if_icmp .ge 17, 3) := by decide +kernel
theorem dX4_upcoming_11 : decode cX4_upcoming 11 = .ok (.aload_n 0, 1) := by decide +kernel
theorem dX4_upcoming_12 : decode cX4_upcoming 12 = .ok (.getfield 9, 3) := by decide +kernel
theorem dX4_upcoming_15 : decode cX4_upcoming 15 = .ok (.aload_n 0, 1) := by decide +kernel
theorem dX4_upcoming_16 : decode cX4_upcoming 16 = .ok (.getfield 28, 3) := by decide +kernel
theorem dX4_upcoming_19 : decode cX4_upcoming 19 = .ok (.invokestatic 75, 3) := by decide +kernel
theorem dX4_upcoming_22 : decode cX4_upcoming 22 = .ok (.goto 4, 3) := by decide +kernel
theorem dX4_upcoming_25 : decode cX4_upcoming 25 = .ok (.iconst (-1), 1) := by decide +kernel
theorem dX4_upcoming_26 : decode cX4_upcoming 26 = .ok (.ireturn, 1) := by decide +kernel
theorem dX4_figure_0 : decode cX4_figure 0 = .ok (.aload_n 0, 1) := by decide +kernel
theorem dX4_figure_1 : decode cX4_figure 1 = .ok (.invokevirtual 31, 3) := by decide +kernel
theorem dX4_figure_4 : decode cX4_figure 4 = .ok (.istore_n 3, 1) := by decide +kernel
theorem dX4_figure_5 : decode cX4_figure 5 = .ok (.iload_n 3, 1) := by decide +kernel
theorem dX4_figure_6 : decode cX4_figure 6 = .ok (.bipush 48, 2) := by decide +kernel
theorem dX4_figure_8 : decode cX4_figure 8 = .ok (.iload_n 1, 1) := by decide +kernel
theorem dX4_figure_9 : decode cX4_figure 9 = .ok (.iadd, 1) := by decide +kernel
theorem dX4_figure_10 : decode cX4_figure 10 = .ok (.if_icmp .lt 11, 3) := by decide +kernel
theorem dX4_figure_13 : decode cX4_figure 13 = .ok (.iload_n 3, 1) := by decide +kernel
theorem dX4_figure_14 : decode cX4_figure 14 = .ok (.bipush 48, 2) := by decide +kernel
theorem dX4_figure_16 : decode cX4_figure 16 = .ok (.iload_n 2, 1) := by decide +kernel
theorem dX4_figure_17 : decode cX4_figure 17 = .ok (.iadd, 1) := by decide +kernel
theorem dX4_figure_18 : decode cX4_figure 18 = .ok (.if_icmp .le 5, 3) := by decide +kernel
theorem dX4_figure_21 : decode cX4_figure 21 = .ok (.iconst (-1), 1) := by decide +kernel
theorem dX4_figure_22 : decode cX4_figure 22 = .ok (.ireturn, 1) := by decide +kernel
theorem dX4_figure_23 : decode cX4_figure 23 = .ok (.aload_n 0, 1) := by decide +kernel
theorem dX4_figure_24 : decode cX4_figure 24 = .ok (.dup, 1) := by decide +kernel
theorem dX4_figure_25 : decode cX4_figure 25 = .ok (.getfield 28, 3) := by decide +kernel
theorem dX4_figure_28 : decode cX4_figure 28 = .ok (.iconst 1, 1) := by decide +kernel
theorem dX4_figure_29 : decode cX4_figure 29 = .ok (.iadd, 1) := by decide +kernel
theorem dX4_figure_30 : decode cX4_figure 30 = .ok (.putfield 28, 3) := by decide +kernel
theorem dX4_figure_33 : decode cX4_figure 33 = .ok (.iload_n 3, 1) := by decide +kernel
theorem dX4_figure_34 : decode cX4_figure 34 = .ok (.bipush 48, 2) := by decide +kernel
theorem dX4_figure_36 : decode cX4_figure 36 = .ok (.isub, 1) := by decide +kernel
theorem dX4_figure_37 : decode cX4_figure 37 = .ok (.ireturn, 1) := by decide +kernel
theorem dX5_init_0 : decode cX5_init 0 = .ok (.aload_n 0, 1) := by decide +kernel
theorem dX5_init_1 : decode cX5_init 1 = .ok (.invokespecial 3, 3) := by decide +kernel
theorem dX5_init_4 : decode cX5_init 4 = .ok (.aload_n 0, 1) := by decide +kernel
theorem dX5_init_5 : decode cX5_init 5 = .ok (.new 9, 3) := by decide +kernel
theorem dX5_init_8 : decode cX5_init 8 = .ok (.dup, 1) := by decide +kernel
theorem dX5_init_9 : decode cX5_init 9 = .ok (.invokespecial 11, 3) := by decide +kernel
theorem dX5_init_12 : decode cX5_init 12 = .ok (.putfield 12, 3) := by decide +kernel
theorem dX5_init_15 : decode cX5_init 15 = .ok (.aload_n 0, 1) := by decide +kernel
theorem dX5_init_16 : decode cX5_init 16 = .ok (.new 16, 3) := by decide +kernel
theorem dX5_init_19 : decode cX5_init 19 = .ok (.dup, 1) := by decide +kernel
theorem dX5_init_20 : decode cX5_init 20 = .ok (.invokespecial 18, 3) := by decide +kernel
theorem dX5_init_23 : decode cX5_init 23 = .ok (.putfield 19, 3) := by decide +kernel
theorem dX5_init_26 : decode cX5_init 26 = .ok (.aload_n 0, 1) := by decide +kernel
theorem dX5_init_27 : decode cX5_init 27 = .ok (.new 16, 3) := by decide +kernel
theorem dX5_init_30 : decode cX5_init 30 = .ok (.dup, 1) := by decide +kernel
theorem dX5_init_31 : decode cX5_init 31 = .ok (.invokespecial 18, 3) := by decide +kernel
theorem dX5_init_34 : decode cX5_init 34 = .ok (.putfield 23, 3) := by decide +kernel
theorem dX5_init_37 : decode cX5_init 37 = .ok (.aload_n 0, 1) := by decide +kernel
theorem dX5_init_38 : decode cX5_init 38 = .ok (.new 26, 3) := by decide +kernel
theorem dX5_init_41 : decode cX5_init 41 = .ok (.dup, 1) := by decide +kernel
theorem dX5_init_42 : decode cX5_init 42 = .ok (.aload_n 0, 1) := by decide +kernel
theorem dX5_init_43 : decode cX5_init 43 = .ok (.getfield 19, 3) := by decide +kernel
theorem dX5_init_46 : decode cX5_init 46 = .ok (.invokespecial 28, 3) := by decide +kernel
theorem dX5_init_49 : decode cX5_init 49 = .ok (.putfield 31, 3) := by decide +kernel
theorem dX5_init_52 : decode cX5_init 52 = .ok (.aload_n 0, 1) := by decide +kernel
theorem dX5_init_53 : decode cX5_init 53 = .ok (.new 26, 3) := by decide +kernel
theorem dX5_init_56 : decode cX5_init 56 = .ok (.dup, 1) := by decide +kernel
theorem dX5_init_57 : decode cX5_init 57 = .ok (.aload_n 0, 1) := by decide +kernel
theorem dX5_init_58 : decode cX5_init 58 = .ok (.getfield 19, 3) := by decide +kernel
theorem dX5_init_61 : decode cX5_init 61 = .ok (.invokespecial 28, 3) := by decide +kernel
theorem dX5_init_64 : decode cX5_init 64 = .ok (.putfield 35, 3) := by decide +kernel
theorem dX5_init_67 : decode cX5_init 67 = .ok (.aload_n 0, 1) := by decide +kernel
theorem dX5_init_68 : decode cX5_init 68 = .ok (.new 38, 3) := by decide +kernel
theorem dX5_init_71 : decode cX5_init 71 = .ok (.dup, 1) := by decide +kernel
theorem dX5_init_72 : decode cX5_init 72 = .ok (.invokespecial 40, 3) := by decide +kernel
theorem dX5_init_75 : decode cX5_init 75 = .ok (.putfield 41, 3) := by decide +kernel
theorem dX5_init_78 : decode cX5_init 78 = .ok (.aload_n 0, 1) := by decide +kernel
theorem dX5_init_79 : decode cX5_init 79 = .ok (.new 45, 3) := by decide +kernel
theorem dX5_init_82 : decode cX5_init 82 = .ok (.dup, 1) := by decide +kernel
theorem dX5_init_83 : decode cX5_init 83 = .ok (.invokespecial 47, 3) := by decide +kernel
theorem dX5_init_86 : decode cX5_init 86 = .ok (.putfield 48, 3) := by decide +kernel
theorem dX5_init_89 : decode cX5_init 89 = .ok (.aload_n 0, 1) := by decide +kernel
theorem dX5_init_90 : decode cX5_init 90 = .ok (.bipush 40, 2) := by decide +kernel
theorem dX5_init_92 : decode cX5_init 92 = .ok (.newarray .int, 2) := by decide +kernel
theorem dX5_init_94 : decode cX5_init 94 = .ok (.putfield 52, 3) := by decide +kernel
theorem dX5_init_97 : decode cX5_init 97 = .ok (.return_, 1) := by decide +kernel
theorem dX5_write_0 : decode cX5_write 0 = .ok (.iload_n 1, 1) := by decide +kernel
theorem dX5_write_1 : decode cX5_write 1 = .ok (.ifCond .lt 10, 3) := by decide +kernel
theorem dX5_write_4 : decode cX5_write 4 = .ok (.iload_n 1, 1) := by decide +kernel
theorem dX5_write_5 : decode cX5_write 5 = .ok (.sipush 255, 3) := by decide +kernel
theorem dX5_write_8 : decode cX5_write 8 = .ok (.if_icmp .le 6, 3) := by decide +kernel
theorem dX5_write_11 : decode cX5_write 11 = .ok (.bipush (-2), 2) := by decide +kernel
theorem dX5_write_13 : decode cX5_write 13 = .ok (.ireturn, 1) := by decide +kernel
theorem dX5_write_14 : decode cX5_write 14 = .ok (.aload_n 0, 1) := by decide +kernel
theorem dX5_write_15 : decode cX5_write 15 = .ok (.getfield 12, 3) := by decide +kernel
theorem dX5_write_18 : decode cX5_write 18 = .ok (.getfield 56, 3) := by decide +kernel
theorem dX5_write_21 : decode cX5_write 21 = .ok (.bipush 48, 2) := by decide +kernel
theorem dX5_write_23 : decode cX5_write 23 = .ok (.if_icmp .lt 6, 3) := by decide +kernel
theorem dX5_write_26 : decode cX5_write 26 = .ok (.bipush (-4), 2) := by decide +kernel
theorem dX5_write_28 : decode cX5_write 28 = .ok (.ireturn, 1) := by decide +kernel
theorem dX5_write_29 : decode cX5_write 29 = .ok (.aload_n 0, 1) := by decide +kernel
theorem dX5_write_30 : decode cX5_write 30 = .ok (.getfield 12, 3) := by decide +kernel
theorem dX5_write_33 : decode cX5_write 33 = .ok (.iload_n 1, 1) := by decide +kernel
theorem dX5_write_34 : decode cX5_write 34 = .ok (.invokevirtual 60, 3) := by decide +kernel
theorem dX5_write_37 : decode cX5_write 37 = .ok (.aload_n 0, 1) := by decide +kernel
theorem dX5_write_38 : decode cX5_write 38 = .ok (.getfield 12, 3) := by decide +kernel
theorem dX5_write_41 : decode cX5_write 41 = .ok (.getfield 56, 3) := by decide +kernel
theorem dX5_write_44 : decode cX5_write 44 = .ok (.ireturn, 1) := by decide +kernel
theorem dX5_wipe_0 : decode cX5_wipe 0 = .ok (.aload_n 0, 1) := by decide +kernel
theorem dX5_wipe_1 : decode cX5_wipe 1 = .ok (.getfield 12, 3) := by decide +kernel
theorem dX5_wipe_4 : decode cX5_wipe 4 = .ok (.getfield 56, 3) := by decide +kernel
theorem dX5_wipe_7 : decode cX5_wipe 7 = .ok (.istore_n 1, 1) := by decide +kernel
theorem dX5_wipe_8 : decode cX5_wipe 8 = .ok (.aload_n 0, 1) := by decide +kernel
theorem dX5_wipe_9 : decode cX5_wipe 9 = .ok (.getfield 12, 3) := by decide +kernel
theorem dX5_wipe_12 : decode cX5_wipe 12 = .ok (.iconst 0, 1) := by decide +kernel
theorem dX5_wipe_13 : decode cX5_wipe 13 = .ok (.putfield 56, 3) := by decide +kernel
theorem dX5_wipe_16 : decode cX5_wipe 16 = .ok (.iload_n 1, 1) := by decide +kernel
theorem dX5_wipe_17 : decode cX5_wipe 17 = .ok (.ireturn, 1) := by decide +kernel
theorem dX5_fault_0 : decode cX5_fault 0 = .ok (.aload_n 0, 1) := by decide +kernel
theorem dX5_fault_1 : decode cX5_fault 1 = .ok (.getfield 12, 3) := by decide +kernel
theorem dX5_fault_4 : decode cX5_fault 4 = .ok (.aload_n 0, 1) := by decide +kernel
theorem dX5_fault_5 : decode cX5_fault 5 = .ok (.getfield 23, 3) := by decide +kernel
theorem dX5_fault_8 : decode cX5_fault 8 = .ok (.invokevirtual 64, 3) := by decide +kernel
theorem dX5_fault_11 : decode cX5_fault 11 = .ok (.ireturn, 1) := by decide +kernel
theorem dX5_shop_0 : decode cX5_shop 0 = .ok (.aload_n 0, 1) := by decide +kernel
theorem dX5_shop_1 : decode cX5_shop 1 = .ok (.getfield 12, 3) := by decide +kernel
theorem dX5_shop_4 : decode cX5_shop 4 = .ok (.aload_n 0, 1) := by decide +kernel
theorem dX5_shop_5 : decode cX5_shop 5 = .ok (.getfield 23, 3) := by decide +kernel
theorem dX5_shop_8 : decode cX5_shop 8 = .ok (.invokevirtual 64, 3) := by decide +kernel
theorem dX5_shop_11 : decode cX5_shop 11 = .ok (.bipush (-9), 2) := by decide +kernel
theorem dX5_shop_13 : decode cX5_shop 13 = .ok (.if_icmp .eq 6, 3) := by decide +kernel
theorem dX5_shop_16 : decode cX5_shop 16 = .ok (.bipush (-3), 2) := by decide +kernel
theorem dX5_shop_18 : decode cX5_shop 18 = .ok (.ireturn, 1) := by decide +kernel
theorem dX5_shop_19 : decode cX5_shop 19 = .ok (.aload_n 0, 1) := by decide +kernel
theorem dX5_shop_20 : decode cX5_shop 20 = .ok (.getfield 12, 3) := by decide +kernel
theorem dX5_shop_23 : decode cX5_shop 23 = .ok (.aload_n 0, 1) := by decide +kernel
theorem dX5_shop_24 : decode cX5_shop 24 = .ok (.getfield 19, 3) := by decide +kernel
theorem dX5_shop_27 : decode cX5_shop 27 = .ok (.invokevirtual 64, 3) := by decide +kernel
theorem dX5_shop_30 : decode cX5_shop 30 = .ok (.pop, 1) := by decide +kernel
theorem dX5_shop_31 : decode cX5_shop 31 = .ok (.aload_n 0, 1) := by decide +kernel
theorem dX5_shop_32 : decode cX5_shop 32 = .ok (.getfield 31, 3) := by decide +kernel
theorem dX5_shop_35 : decode cX5_shop 35 = .ok (.invokevirtual 68, 3) := by decide +kernel
theorem dX5_shop_38 : decode cX5_shop 38 = .ok (.aload_n 0, 1) := by decide +kernel
theorem dX5_shop_39 : decode cX5_shop 39 = .ok (.getfield 41, 3) := by decide +kernel
theorem dX5_shop_42 : decode cX5_shop 42 = .ok (.invokevirtual 71, 3) := by decide +kernel
theorem dX5_shop_45 : decode cX5_shop 45 = .ok (.aload_n 0, 1) := by decide +kernel
theorem dX5_shop_46 : decode cX5_shop 46 = .ok (.iconst 0, 1) := by decide +kernel
theorem dX5_shop_47 : decode cX5_shop 47 = .ok (.putfield 74, 3) := by decide +kernel
theorem dX5_shop_50 : decode cX5_shop 50 = .ok (.bipush 100, 2) := by decide +kernel
theorem dX5_shop_52 : decode cX5_shop 52 = .ok (.aload_n 0, 1) := by decide +kernel
theorem dX5_shop_53 : decode cX5_shop 53 = .ok (.getfield 19, 3) := by decide +kernel
theorem dX5_shop_56 : decode cX5_shop 56 = .ok (.getfield 77, 3) := by decide +kernel
theorem dX5_shop_59 : decode cX5_shop 59 = .ok (.imul, 1) := by decide +kernel
theorem dX5_shop_60 : decode cX5_shop 60 = .ok (.bipush 10, 2) := by decide +kernel
theorem dX5_shop_62 : decode cX5_shop 62 = .ok (.aload_n 0, 1) := by decide +kernel
theorem dX5_shop_63 : decode cX5_shop 63 = .ok (.getfield 19, 3) := by decide +kernel
theorem dX5_shop_66 : decode cX5_shop 66 = .ok (.getfield 80, 3) := by decide +kernel
theorem dX5_shop_69 : decode cX5_shop 69 = .ok (.imul, 1) := by decide +kernel
theorem dX5_shop_70 : decode cX5_shop 70 = .ok (.iadd, 1) := by decide +kernel
theorem dX5_shop_71 : decode cX5_shop 71 = .ok (.aload_n 0, 1) := by decide +kernel
theorem dX5_shop_72 : decode cX5_shop 72 = .ok (.getfield 19, 3) := by decide +kernel
theorem dX5_shop_75 : decode cX5_shop 75 = .ok (.getfield 83, 3) := by decide +kernel
theorem dX5_shop_78 : decode cX5_shop 78 = .ok (.iadd, 1) := by decide +kernel
theorem dX5_shop_79 : decode cX5_shop 79 = .ok (.ireturn, 1) := by decide +kernel
theorem dX5_about_0 : decode cX5_about 0 = .ok (.iload_n 1, 1) := by decide +kernel
theorem dX5_about_1 : decode cX5_about 1 = .ok (.tableswitch 176 0 12 #[67, 75, 83, 91, 99, 107, 116, 125, 134, 143, 152, 160, 168], 67) := by decide +kernel
theorem dX5_about_68 : decode cX5_about 68 = .ok (.aload_n 0, 1) := by decide +kernel
theorem dX5_about_69 : decode cX5_about 69 = .ok (.getfield 19, 3) := by decide +kernel
theorem dX5_about_72 : decode cX5_about 72 = .ok (.getfield 77, 3) := by decide +kernel
theorem dX5_about_75 : decode cX5_about 75 = .ok (.ireturn, 1) := by decide +kernel
theorem dX5_about_76 : decode cX5_about 76 = .ok (.aload_n 0, 1) := by decide +kernel
theorem dX5_about_77 : decode cX5_about 77 = .ok (.getfield 19, 3) := by decide +kernel
theorem dX5_about_80 : decode cX5_about 80 = .ok (.getfield 80, 3) := by decide +kernel
theorem dX5_about_83 : decode cX5_about 83 = .ok (.ireturn, 1) := by decide +kernel
theorem dX5_about_84 : decode cX5_about 84 = .ok (.aload_n 0, 1) := by decide +kernel
theorem dX5_about_85 : decode cX5_about 85 = .ok (.getfield 19, 3) := by decide +kernel
theorem dX5_about_88 : decode cX5_about 88 = .ok (.getfield 83, 3) := by decide +kernel
theorem dX5_about_91 : decode cX5_about 91 = .ok (.ireturn, 1) := by decide +kernel
theorem dX5_about_92 : decode cX5_about 92 = .ok (.aload_n 0, 1) := by decide +kernel
theorem dX5_about_93 : decode cX5_about 93 = .ok (.getfield 31, 3) := by decide +kernel
theorem dX5_about_96 : decode cX5_about 96 = .ok (.invokevirtual 86, 3) := by decide +kernel
theorem dX5_about_99 : decode cX5_about 99 = .ok (.ireturn, 1) := by decide +kernel
theorem dX5_about_100 : decode cX5_about 100 = .ok (.aload_n 0, 1) := by decide +kernel
theorem dX5_about_101 : decode cX5_about 101 = .ok (.getfield 31, 3) := by decide +kernel
theorem dX5_about_104 : decode cX5_about 104 = .ok (.invokevirtual 90, 3) := by decide +kernel
theorem dX5_about_107 : decode cX5_about 107 = .ok (.ireturn, 1) := by decide +kernel
theorem dX5_about_108 : decode cX5_about 108 = .ok (.aload_n 0, 1) := by decide +kernel
theorem dX5_about_109 : decode cX5_about 109 = .ok (.getfield 31, 3) := by decide +kernel
theorem dX5_about_112 : decode cX5_about 112 = .ok (.iconst 0, 1) := by decide +kernel
theorem dX5_about_113 : decode cX5_about 113 = .ok (.invokevirtual 93, 3) := by decide +kernel
theorem dX5_about_116 : decode cX5_about 116 = .ok (.ireturn, 1) := by decide +kernel
theorem dX5_about_117 : decode cX5_about 117 = .ok (.aload_n 0, 1) := by decide +kernel
theorem dX5_about_118 : decode cX5_about 118 = .ok (.getfield 31, 3) := by decide +kernel
theorem dX5_about_121 : decode cX5_about 121 = .ok (.iconst 1, 1) := by decide +kernel
theorem dX5_about_122 : decode cX5_about 122 = .ok (.invokevirtual 93, 3) := by decide +kernel
theorem dX5_about_125 : decode cX5_about 125 = .ok (.ireturn, 1) := by decide +kernel
theorem dX5_about_126 : decode cX5_about 126 = .ok (.aload_n 0, 1) := by decide +kernel
theorem dX5_about_127 : decode cX5_about 127 = .ok (.getfield 31, 3) := by decide +kernel
theorem dX5_about_130 : decode cX5_about 130 = .ok (.iconst 2, 1) := by decide +kernel
theorem dX5_about_131 : decode cX5_about 131 = .ok (.invokevirtual 93, 3) := by decide +kernel
theorem dX5_about_134 : decode cX5_about 134 = .ok (.ireturn, 1) := by decide +kernel
theorem dX5_about_135 : decode cX5_about 135 = .ok (.aload_n 0, 1) := by decide +kernel
theorem dX5_about_136 : decode cX5_about 136 = .ok (.getfield 31, 3) := by decide +kernel
theorem dX5_about_139 : decode cX5_about 139 = .ok (.iconst 1, 1) := by decide +kernel
theorem dX5_about_140 : decode cX5_about 140 = .ok (.invokevirtual 97, 3) := by decide +kernel
theorem dX5_about_143 : decode cX5_about 143 = .ok (.ireturn, 1) := by decide +kernel
theorem dX5_about_144 : decode cX5_about 144 = .ok (.aload_n 0, 1) := by decide +kernel
theorem dX5_about_145 : decode cX5_about 145 = .ok (.getfield 31, 3) := by decide +kernel
theorem dX5_about_148 : decode cX5_about 148 = .ok (.iconst 2, 1) := by decide +kernel
theorem dX5_about_149 : decode cX5_about 149 = .ok (.invokevirtual 97, 3) := by decide +kernel
theorem dX5_about_152 : decode cX5_about 152 = .ok (.ireturn, 1) := by decide +kernel
theorem dX5_about_153 : decode cX5_about 153 = .ok (.aload_n 0, 1) := by decide +kernel
theorem dX5_about_154 : decode cX5_about 154 = .ok (.getfield 41, 3) := by decide +kernel
theorem dX5_about_157 : decode cX5_about 157 = .ok (.getfield 100, 3) := by decide +kernel
theorem dX5_about_160 : decode cX5_about 160 = .ok (.ireturn, 1) := by decide +kernel
theorem dX5_about_161 : decode cX5_about 161 = .ok (.aload_n 0, 1) := by decide +kernel
theorem dX5_about_162 : decode cX5_about 162 = .ok (.getfield 48, 3) := by decide +kernel
theorem dX5_about_165 : decode cX5_about 165 = .ok (.getfield 103, 3) := by decide +kernel
theorem dX5_about_168 : decode cX5_about 168 = .ok (.ireturn, 1) := by decide +kernel
theorem dX5_about_169 : decode cX5_about 169 = .ok (.aload_n 0, 1) := by decide +kernel
theorem dX5_about_170 : decode cX5_about 170 = .ok (.getfield 12, 3) := by decide +kernel
theorem dX5_about_173 : decode cX5_about 173 = .ok (.getfield 56, 3) := by decide +kernel
theorem dX5_about_176 : decode cX5_about 176 = .ok (.ireturn, 1) := by decide +kernel
theorem dX5_about_177 : decode cX5_about 177 = .ok (.bipush (-2), 2) := by decide +kernel
theorem dX5_about_179 : decode cX5_about 179 = .ok (.ireturn, 1) := by decide +kernel
theorem dX5_person_0 : decode cX5_person 0 = .ok (.aload_n 0, 1) := by decide +kernel
theorem dX5_person_1 : decode cX5_person 1 = .ok (.getfield 19, 3) := by decide +kernel
theorem dX5_person_4 : decode cX5_person 4 = .ok (.iload_n 1, 1) := by decide +kernel
theorem dX5_person_5 : decode cX5_person 5 = .ok (.invokevirtual 104, 3) := by decide +kernel
theorem dX5_person_8 : decode cX5_person 8 = .ok (.ifCond .ne 5, 3) := by decide +kernel
theorem dX5_person_11 : decode cX5_person 11 = .ok (.iconst (-1), 1) := by decide +kernel
theorem dX5_person_12 : decode cX5_person 12 = .ok (.ireturn, 1) := by decide +kernel
theorem dX5_person_13 : decode cX5_person 13 = .ok (.iload_n 2, 1) := by decide +kernel
theorem dX5_person_14 : decode cX5_person 14 = .ok (.tableswitch 53 0 2 #[26, 35, 44], 26) := by decide +kernel
theorem dX5_person_40 : decode cX5_person 40 = .ok (.aload_n 0, 1) := by decide +kernel
theorem dX5_person_41 : decode cX5_person 41 = .ok (.getfield 31, 3) := by decide +kernel
theorem dX5_person_44 : decode cX5_person 44 = .ok (.iload_n 1, 1) := by decide +kernel
theorem dX5_person_45 : decode cX5_person 45 = .ok (.invokevirtual 108, 3) := by decide +kernel
theorem dX5_person_48 : decode cX5_person 48 = .ok (.ireturn, 1) := by decide +kernel
theorem dX5_person_49 : decode cX5_person 49 = .ok (.aload_n 0, 1) := by decide +kernel
theorem dX5_person_50 : decode cX5_person 50 = .ok (.getfield 19, 3) := by decide +kernel
theorem dX5_person_53 : decode cX5_person 53 = .ok (.iload_n 1, 1) := by decide +kernel
theorem dX5_person_54 : decode cX5_person 54 = .ok (.invokevirtual 111, 3) := by decide +kernel
theorem dX5_person_57 : decode cX5_person 57 = .ok (.ireturn, 1) := by decide +kernel
theorem dX5_person_58 : decode cX5_person 58 = .ok (.aload_n 0, 1) := by decide +kernel
theorem dX5_person_59 : decode cX5_person 59 = .ok (.getfield 19, 3) := by decide +kernel
theorem dX5_person_62 : decode cX5_person 62 = .ok (.iload_n 1, 1) := by decide +kernel
theorem dX5_person_63 : decode cX5_person 63 = .ok (.invokevirtual 114, 3) := by decide +kernel
theorem dX5_person_66 : decode cX5_person 66 = .ok (.ireturn, 1) := by decide +kernel
theorem dX5_person_67 : decode cX5_person 67 = .ok (.bipush (-2), 2) := by decide +kernel
theorem dX5_person_69 : decode cX5_person 69 = .ok (.ireturn, 1) := by decide +kernel
theorem dX5_quality_0 : decode cX5_quality 0 = .ok (.aload_n 0, 1) := by decide +kernel
theorem dX5_quality_1 : decode cX5_quality 1 = .ok (.getfield 19, 3) := by decide +kernel
theorem dX5_quality_4 : decode cX5_quality 4 = .ok (.iload_n 1, 1) := by decide +kernel
theorem dX5_quality_5 : decode cX5_quality 5 = .ok (.invokevirtual 117, 3) := by decide +kernel
theorem dX5_quality_8 : decode cX5_quality 8 = .ok (.ifCond .ne 5, 3) := by decide +kernel
theorem dX5_quality_11 : decode cX5_quality 11 = .ok (.iconst (-1), 1) := by decide +kernel
theorem dX5_quality_12 : decode cX5_quality 12 = .ok (.ireturn, 1) := by decide +kernel
theorem dX5_quality_13 : decode cX5_quality 13 = .ok (.iload_n 2, 1) := by decide +kernel
theorem dX5_quality_14 : decode cX5_quality 14 = .ok (.tableswitch 109 0 5 #[38, 47, 56, 65, 74, 100], 38) := by decide +kernel
theorem dX5_quality_52 : decode cX5_quality 52 = .ok (.aload_n 0, 1) := by decide +kernel
theorem dX5_quality_53 : decode cX5_quality 53 = .ok (.getfield 19, 3) := by decide +kernel
theorem dX5_quality_56 : decode cX5_quality 56 = .ok (.iload_n 1, 1) := by decide +kernel
theorem dX5_quality_57 : decode cX5_quality 57 = .ok (.invokevirtual 120, 3) := by decide +kernel
theorem dX5_quality_60 : decode cX5_quality 60 = .ok (.ireturn, 1) := by decide +kernel
theorem dX5_quality_61 : decode cX5_quality 61 = .ok (.aload_n 0, 1) := by decide +kernel
theorem dX5_quality_62 : decode cX5_quality 62 = .ok (.getfield 19, 3) := by decide +kernel
theorem dX5_quality_65 : decode cX5_quality 65 = .ok (.iload_n 1, 1) := by decide +kernel
theorem dX5_quality_66 : decode cX5_quality 66 = .ok (.invokevirtual 123, 3) := by decide +kernel
theorem dX5_quality_69 : decode cX5_quality 69 = .ok (.ireturn, 1) := by decide +kernel
theorem dX5_quality_70 : decode cX5_quality 70 = .ok (.aload_n 0, 1) := by decide +kernel
theorem dX5_quality_71 : decode cX5_quality 71 = .ok (.getfield 19, 3) := by decide +kernel
theorem dX5_quality_74 : decode cX5_quality 74 = .ok (.iload_n 1, 1) := by decide +kernel
theorem dX5_quality_75 : decode cX5_quality 75 = .ok (.invokevirtual 126, 3) := by decide +kernel
theorem dX5_quality_78 : decode cX5_quality 78 = .ok (.ireturn, 1) := by decide +kernel
theorem dX5_quality_79 : decode cX5_quality 79 = .ok (.aload_n 0, 1) := by decide +kernel
theorem dX5_quality_80 : decode cX5_quality 80 = .ok (.getfield 31, 3) := by decide +kernel
theorem dX5_quality_83 : decode cX5_quality 83 = .ok (.iload_n 1, 1) := by decide +kernel
theorem dX5_quality_84 : decode cX5_quality 84 = .ok (.invokevirtual 129, 3) := by decide +kernel
theorem dX5_quality_87 : decode cX5_quality 87 = .ok (.ireturn, 1) := by decide +kernel
theorem dX5_quality_88 : decode cX5_quality 88 = .ok (.aload_n 0, 1) := by decide +kernel
theorem dX5_quality_89 : decode cX5_quality 89 = .ok (.getfield 31, 3) := by decide +kernel
theorem dX5_quality_92 : decode cX5_quality 92 = .ok (.iload_n 1, 1) := by decide +kernel
theorem dX5_quality_93 : decode cX5_quality 93 = .ok (.invokevirtual 129, 3) := by decide +kernel
theorem dX5_quality_96 : decode cX5_quality 96 = .ok (.iconst 1, 1) := by decide +kernel
theorem dX5_quality_97 : decode cX5_quality 97 = .ok (.if_icmp .ne 14, 3) := by decide +kernel
theorem dX5_quality_100 : decode cX5_quality 100 = .ok (.aload_n 0, 1) := by decide +kernel
theorem dX5_quality_101 : decode cX5_quality 101 = .ok (.getfield 31, 3) := by decide +kernel
theorem dX5_quality_104 : decode cX5_quality 104 = .ok (.iload_n 1, 1) := by decide +kernel
theorem dX5_quality_105 : decode cX5_quality 105 = .ok (.invokevirtual 132, 3) := by decide +kernel
theorem dX5_quality_108 : decode cX5_quality 108 = .ok (.goto 5, 3) := by decide +kernel
theorem dX5_quality_111 : decode cX5_quality 111 = .ok (.bipush (-9), 2) := by decide +kernel
theorem dX5_quality_113 : decode cX5_quality 113 = .ok (.ireturn, 1) := by decide +kernel
theorem dX5_quality_114 : decode cX5_quality 114 = .ok (.aload_n 0, 1) := by decide +kernel
theorem dX5_quality_115 : decode cX5_quality 115 = .ok (.getfield 31, 3) := by decide +kernel
theorem dX5_quality_118 : decode cX5_quality 118 = .ok (.iload_n 1, 1) := by decide +kernel
theorem dX5_quality_119 : decode cX5_quality 119 = .ok (.invokevirtual 135, 3) := by decide +kernel
theorem dX5_quality_122 : decode cX5_quality 122 = .ok (.ireturn, 1) := by decide +kernel
theorem dX5_quality_123 : decode cX5_quality 123 = .ok (.bipush (-2), 2) := by decide +kernel
theorem dX5_quality_125 : decode cX5_quality 125 = .ok (.ireturn, 1) := by decide +kernel
theorem dX5_deed_0 : decode cX5_deed 0 = .ok (.aload_n 0, 1) := by decide +kernel
theorem dX5_deed_1 : decode cX5_deed 1 = .ok (.getfield 19, 3) := by decide +kernel
theorem dX5_deed_4 : decode cX5_deed 4 = .ok (.iload_n 1, 1) := by decide +kernel
theorem dX5_deed_5 : decode cX5_deed 5 = .ok (.invokevirtual 138, 3) := by decide +kernel
theorem dX5_deed_8 : decode cX5_deed 8 = .ok (.ifCond .ne 5, 3) := by decide +kernel
theorem dX5_deed_11 : decode cX5_deed 11 = .ok (.iconst (-1), 1) := by decide +kernel
theorem dX5_deed_12 : decode cX5_deed 12 = .ok (.ireturn, 1) := by decide +kernel
theorem dX5_deed_13 : decode cX5_deed 13 = .ok (.iload_n 2, 1) := by decide +kernel
theorem dX5_deed_14 : decode cX5_deed 14 = .ok (.tableswitch 66 0 3 #[30, 39, 48, 57], 30) := by decide +kernel
theorem dX5_deed_44 : decode cX5_deed 44 = .ok (.aload_n 0, 1) := by decide +kernel
theorem dX5_deed_45 : decode cX5_deed 45 = .ok (.getfield 19, 3) := by decide +kernel
theorem dX5_deed_48 : decode cX5_deed 48 = .ok (.iload_n 1, 1) := by decide +kernel
theorem dX5_deed_49 : decode cX5_deed 49 = .ok (.invokevirtual 141, 3) := by decide +kernel
