theorem dX5_deedsIfPledged_9 : decode cX5_deedsIfPledged 9 = .ok (.iconst (-1), 1) := by decide +kernel
theorem dX5_deedsIfPledged_10 : decode cX5_deedsIfPledged 10 = .ok (.ixor, 1) := by decide +kernel
theorem dX5_deedsIfPledged_11 : decode cX5_deedsIfPledged 11 = .ok (.iand, 1) := by decide +kernel
theorem dX5_deedsIfPledged_12 : decode cX5_deedsIfPledged 12 = .ok (.ifCond .eq 6, 3) := by decide +kernel
theorem dX5_deedsIfPledged_15 : decode cX5_deedsIfPledged 15 = .ok (.bipush (-9), 2) := by decide +kernel
theorem dX5_deedsIfPledged_17 : decode cX5_deedsIfPledged 17 = .ok (.ireturn, 1) := by decide +kernel
theorem dX5_deedsIfPledged_18 : decode cX5_deedsIfPledged 18 = .ok (.aload_n 0, 1) := by decide +kernel
theorem dX5_deedsIfPledged_19 : decode cX5_deedsIfPledged 19 = .ok (.getfield 35, 3) := by decide +kernel
theorem dX5_deedsIfPledged_22 : decode cX5_deedsIfPledged 22 = .ok (.aload_n 0, 1) := by decide +kernel
theorem dX5_deedsIfPledged_23 : decode cX5_deedsIfPledged 23 = .ok (.getfield 31, 3) := by decide +kernel
theorem dX5_deedsIfPledged_26 : decode cX5_deedsIfPledged 26 = .ok (.invokevirtual 197, 3) := by decide +kernel
theorem dX5_deedsIfPledged_29 : decode cX5_deedsIfPledged 29 = .ok (.iconst 0, 1) := by decide +kernel
theorem dX5_deedsIfPledged_30 : decode cX5_deedsIfPledged 30 = .ok (.istore 4, 2) := by decide +kernel
theorem dX5_deedsIfPledged_32 : decode cX5_deedsIfPledged 32 = .ok (.iload 4, 2) := by decide +kernel
theorem dX5_deedsIfPledged_34 : decode cX5_deedsIfPledged 34 = .ok (.iconst 5, 1) := by decide +kernel
theorem dX5_deedsIfPledged_35 : decode cX5_deedsIfPledged 35 = .ok (.if_icmp .ge 34, 3) := by decide +kernel
theorem dX5_deedsIfPledged_38 : decode cX5_deedsIfPledged 38 = .ok (.iload_n 1, 1) := by decide +kernel
theorem dX5_deedsIfPledged_39 : decode cX5_deedsIfPledged 39 = .ok (.iload 4, 2) := by decide +kernel
theorem dX5_deedsIfPledged_41 : decode cX5_deedsIfPledged 41 = .ok (.ishr, 1) := by decide +kernel
theorem dX5_deedsIfPledged_42 : decode cX5_deedsIfPledged 42 = .ok (.iconst 1, 1) := by decide +kernel
theorem dX5_deedsIfPledged_43 : decode cX5_deedsIfPledged 43 = .ok (.iand, 1) := by decide +kernel
theorem dX5_deedsIfPledged_44 : decode cX5_deedsIfPledged 44 = .ok (.iconst 1, 1) := by decide +kernel
theorem dX5_deedsIfPledged_45 : decode cX5_deedsIfPledged 45 = .ok (.if_icmp .ne 18, 3) := by decide +kernel
theorem dX5_deedsIfPledged_48 : decode cX5_deedsIfPledged 48 = .ok (.aload_n 0, 1) := by decide +kernel
theorem dX5_deedsIfPledged_49 : decode cX5_deedsIfPledged 49 = .ok (.getfield 35, 3) := by decide +kernel
theorem dX5_deedsIfPledged_52 : decode cX5_deedsIfPledged 52 = .ok (.iload 4, 2) := by decide +kernel
theorem dX5_deedsIfPledged_54 : decode cX5_deedsIfPledged 54 = .ok (.invokevirtual 163, 3) := by decide +kernel
theorem dX5_deedsIfPledged_57 : decode cX5_deedsIfPledged 57 = .ok (.ifCond .ne 6, 3) := by decide +kernel
theorem dX5_deedsIfPledged_60 : decode cX5_deedsIfPledged 60 = .ok (.bipush (-9), 2) := by decide +kernel
theorem dX5_deedsIfPledged_62 : decode cX5_deedsIfPledged 62 = .ok (.ireturn, 1) := by decide +kernel
theorem dX5_deedsIfPledged_63 : decode cX5_deedsIfPledged 63 = .ok (.iinc 4 1, 3) := by decide +kernel
theorem dX5_deedsIfPledged_66 : decode cX5_deedsIfPledged 66 = .ok (.goto (-34), 3) := by decide +kernel
theorem dX5_deedsIfPledged_69 : decode cX5_deedsIfPledged 69 = .ok (.aload_n 0, 1) := by decide +kernel
theorem dX5_deedsIfPledged_70 : decode cX5_deedsIfPledged 70 = .ok (.getfield 35, 3) := by decide +kernel
theorem dX5_deedsIfPledged_73 : decode cX5_deedsIfPledged 73 = .ok (.iload_n 2, 1) := by decide +kernel
theorem dX5_deedsIfPledged_74 : decode cX5_deedsIfPledged 74 = .ok (.invokevirtual 108, 3) := by decide +kernel
theorem dX5_deedsIfPledged_77 : decode cX5_deedsIfPledged 77 = .ok (.iload_n 3, 1) := by decide +kernel
theorem dX5_deedsIfPledged_78 : decode cX5_deedsIfPledged 78 = .ok (.if_icmp .ge 6, 3) := by decide +kernel
theorem dX5_deedsIfPledged_81 : decode cX5_deedsIfPledged 81 = .ok (.bipush (-9), 2) := by decide +kernel
theorem dX5_deedsIfPledged_83 : decode cX5_deedsIfPledged 83 = .ok (.ireturn, 1) := by decide +kernel
theorem dX5_deedsIfPledged_84 : decode cX5_deedsIfPledged 84 = .ok (.aload_n 0, 1) := by decide +kernel
theorem dX5_deedsIfPledged_85 : decode cX5_deedsIfPledged 85 = .ok (.getfield 35, 3) := by decide +kernel
theorem dX5_deedsIfPledged_88 : decode cX5_deedsIfPledged 88 = .ok (.invokevirtual 209, 3) := by decide +kernel
theorem dX5_deedsIfPledged_91 : decode cX5_deedsIfPledged 91 = .ok (.aload_n 0, 1) := by decide +kernel
theorem dX5_deedsIfPledged_92 : decode cX5_deedsIfPledged 92 = .ok (.getfield 19, 3) := by decide +kernel
theorem dX5_deedsIfPledged_95 : decode cX5_deedsIfPledged 95 = .ok (.iload_n 2, 1) := by decide +kernel
theorem dX5_deedsIfPledged_96 : decode cX5_deedsIfPledged 96 = .ok (.invokevirtual 114, 3) := by decide +kernel
theorem dX5_deedsIfPledged_99 : decode cX5_deedsIfPledged 99 = .ok (.iand, 1) := by decide +kernel
theorem dX5_deedsIfPledged_100 : decode cX5_deedsIfPledged 100 = .ok (.invokestatic 192, 3) := by decide +kernel
theorem dX5_deedsIfPledged_103 : decode cX5_deedsIfPledged 103 = .ok (.ireturn, 1) := by decide +kernel
theorem dX5_gain_0 : decode cX5_gain 0 = .ok (.aload_n 0, 1) := by decide +kernel
theorem dX5_gain_1 : decode cX5_gain 1 = .ok (.getfield 35, 3) := by decide +kernel
theorem dX5_gain_4 : decode cX5_gain 4 = .ok (.aload_n 0, 1) := by decide +kernel
theorem dX5_gain_5 : decode cX5_gain 5 = .ok (.getfield 31, 3) := by decide +kernel
theorem dX5_gain_8 : decode cX5_gain 8 = .ok (.invokevirtual 197, 3) := by decide +kernel
theorem dX5_gain_11 : decode cX5_gain 11 = .ok (.iload 4, 2) := by decide +kernel
theorem dX5_gain_13 : decode cX5_gain 13 = .ok (.iconst 2, 1) := by decide +kernel
theorem dX5_gain_14 : decode cX5_gain 14 = .ok (.iand, 1) := by decide +kernel
theorem dX5_gain_15 : decode cX5_gain 15 = .ok (.ifCond .eq 19, 3) := by decide +kernel
theorem dX5_gain_18 : decode cX5_gain 18 = .ok (.aload_n 0, 1) := by decide +kernel
theorem dX5_gain_19 : decode cX5_gain 19 = .ok (.getfield 35, 3) := by decide +kernel
theorem dX5_gain_22 : decode cX5_gain 22 = .ok (.aload_n 0, 1) := by decide +kernel
theorem dX5_gain_23 : decode cX5_gain 23 = .ok (.getfield 35, 3) := by decide +kernel
theorem dX5_gain_26 : decode cX5_gain 26 = .ok (.iload_n 2, 1) := by decide +kernel
theorem dX5_gain_27 : decode cX5_gain 27 = .ok (.invokevirtual 256, 3) := by decide +kernel
theorem dX5_gain_30 : decode cX5_gain 30 = .ok (.invokevirtual 163, 3) := by decide +kernel
theorem dX5_gain_33 : decode cX5_gain 33 = .ok (.pop, 1) := by decide +kernel
theorem dX5_gain_34 : decode cX5_gain 34 = .ok (.iload 4, 2) := by decide +kernel
theorem dX5_gain_36 : decode cX5_gain 36 = .ok (.iconst 1, 1) := by decide +kernel
theorem dX5_gain_37 : decode cX5_gain 37 = .ok (.iand, 1) := by decide +kernel
theorem dX5_gain_38 : decode cX5_gain 38 = .ok (.ifCond .eq 19, 3) := by decide +kernel
theorem dX5_gain_41 : decode cX5_gain 41 = .ok (.aload_n 0, 1) := by decide +kernel
theorem dX5_gain_42 : decode cX5_gain 42 = .ok (.getfield 35, 3) := by decide +kernel
theorem dX5_gain_45 : decode cX5_gain 45 = .ok (.aload_n 0, 1) := by decide +kernel
theorem dX5_gain_46 : decode cX5_gain 46 = .ok (.getfield 35, 3) := by decide +kernel
theorem dX5_gain_49 : decode cX5_gain 49 = .ok (.iload_n 3, 1) := by decide +kernel
theorem dX5_gain_50 : decode cX5_gain 50 = .ok (.invokevirtual 256, 3) := by decide +kernel
theorem dX5_gain_53 : decode cX5_gain 53 = .ok (.invokevirtual 163, 3) := by decide +kernel
theorem dX5_gain_56 : decode cX5_gain 56 = .ok (.pop, 1) := by decide +kernel
theorem dX5_gain_57 : decode cX5_gain 57 = .ok (.aload_n 0, 1) := by decide +kernel
theorem dX5_gain_58 : decode cX5_gain 58 = .ok (.getfield 35, 3) := by decide +kernel
theorem dX5_gain_61 : decode cX5_gain 61 = .ok (.iload_n 1, 1) := by decide +kernel
theorem dX5_gain_62 : decode cX5_gain 62 = .ok (.invokevirtual 108, 3) := by decide +kernel
theorem dX5_gain_65 : decode cX5_gain 65 = .ok (.istore 5, 2) := by decide +kernel
theorem dX5_gain_67 : decode cX5_gain 67 = .ok (.aload_n 0, 1) := by decide +kernel
theorem dX5_gain_68 : decode cX5_gain 68 = .ok (.getfield 19, 3) := by decide +kernel
theorem dX5_gain_71 : decode cX5_gain 71 = .ok (.iload_n 1, 1) := by decide +kernel
theorem dX5_gain_72 : decode cX5_gain 72 = .ok (.invokevirtual 114, 3) := by decide +kernel
theorem dX5_gain_75 : decode cX5_gain 75 = .ok (.aload_n 0, 1) := by decide +kernel
theorem dX5_gain_76 : decode cX5_gain 76 = .ok (.getfield 35, 3) := by decide +kernel
theorem dX5_gain_79 : decode cX5_gain 79 = .ok (.invokevirtual 209, 3) := by decide +kernel
theorem dX5_gain_82 : decode cX5_gain 82 = .ok (.iconst (-1), 1) := by decide +kernel
theorem dX5_gain_83 : decode cX5_gain 83 = .ok (.ixor, 1) := by decide +kernel
theorem dX5_gain_84 : decode cX5_gain 84 = .ok (.iand, 1) := by decide +kernel
theorem dX5_gain_85 : decode cX5_gain 85 = .ok (.invokestatic 192, 3) := by decide +kernel
theorem dX5_gain_88 : decode cX5_gain 88 = .ok (.istore 6, 2) := by decide +kernel
theorem dX5_gain_90 : decode cX5_gain 90 = .ok (.iload 5, 2) := by decide +kernel
theorem dX5_gain_92 : decode cX5_gain 92 = .ok (.iconst 5, 1) := by decide +kernel
theorem dX5_gain_93 : decode cX5_gain 93 = .ok (.iload 6, 2) := by decide +kernel
theorem dX5_gain_95 : decode cX5_gain 95 = .ok (.imul, 1) := by decide +kernel
theorem dX5_gain_96 : decode cX5_gain 96 = .ok (.isub, 1) := by decide +kernel
theorem dX5_gain_97 : decode cX5_gain 97 = .ok (.ireturn, 1) := by decide +kernel
theorem dX5_deedsIfSold_0 : decode cX5_deedsIfSold 0 = .ok (.aload_n 0, 1) := by decide +kernel
theorem dX5_deedsIfSold_1 : decode cX5_deedsIfSold 1 = .ok (.getfield 35, 3) := by decide +kernel
theorem dX5_deedsIfSold_4 : decode cX5_deedsIfSold 4 = .ok (.aload_n 0, 1) := by decide +kernel
theorem dX5_deedsIfSold_5 : decode cX5_deedsIfSold 5 = .ok (.getfield 31, 3) := by decide +kernel
theorem dX5_deedsIfSold_8 : decode cX5_deedsIfSold 8 = .ok (.invokevirtual 197, 3) := by decide +kernel
theorem dX5_deedsIfSold_11 : decode cX5_deedsIfSold 11 = .ok (.aload_n 0, 1) := by decide +kernel
theorem dX5_deedsIfSold_12 : decode cX5_deedsIfSold 12 = .ok (.getfield 35, 3) := by decide +kernel
theorem dX5_deedsIfSold_15 : decode cX5_deedsIfSold 15 = .ok (.iload_n 1, 1) := by decide +kernel
theorem dX5_deedsIfSold_16 : decode cX5_deedsIfSold 16 = .ok (.invokevirtual 259, 3) := by decide +kernel
theorem dX5_deedsIfSold_19 : decode cX5_deedsIfSold 19 = .ok (.aload_n 0, 1) := by decide +kernel
theorem dX5_deedsIfSold_20 : decode cX5_deedsIfSold 20 = .ok (.getfield 35, 3) := by decide +kernel
theorem dX5_deedsIfSold_23 : decode cX5_deedsIfSold 23 = .ok (.invokevirtual 209, 3) := by decide +kernel
theorem dX5_deedsIfSold_26 : decode cX5_deedsIfSold 26 = .ok (.invokestatic 192, 3) := by decide +kernel
theorem dX5_deedsIfSold_29 : decode cX5_deedsIfSold 29 = .ok (.ireturn, 1) := by decide +kernel
theorem dX5_weightOfSale_0 : decode cX5_weightOfSale 0 = .ok (.iconst 1, 1) := by decide +kernel
theorem dX5_weightOfSale_1 : decode cX5_weightOfSale 1 = .ok (.istore_n 3, 1) := by decide +kernel
theorem dX5_weightOfSale_2 : decode cX5_weightOfSale 2 = .ok (.iconst 0, 1) := by decide +kernel
theorem dX5_weightOfSale_3 : decode cX5_weightOfSale 3 = .ok (.istore 4, 2) := by decide +kernel
theorem dX5_weightOfSale_5 : decode cX5_weightOfSale 5 = .ok (.iload 4, 2) := by decide +kernel
theorem dX5_weightOfSale_7 : decode cX5_weightOfSale 7 = .ok (.iconst 5, 1) := by decide +kernel
theorem dX5_weightOfSale_8 : decode cX5_weightOfSale 8 = .ok (.if_icmp .ge 40, 3) := by decide +kernel
theorem dX5_weightOfSale_11 : decode cX5_weightOfSale 11 = .ok (.iload_n 1, 1) := by decide +kernel
theorem dX5_weightOfSale_12 : decode cX5_weightOfSale 12 = .ok (.iload 4, 2) := by decide +kernel
theorem dX5_weightOfSale_14 : decode cX5_weightOfSale 14 = .ok (.ishr, 1) := by decide +kernel
theorem dX5_weightOfSale_15 : decode cX5_weightOfSale 15 = .ok (.iconst 1, 1) := by decide +kernel
theorem dX5_weightOfSale_16 : decode cX5_weightOfSale 16 = .ok (.iand, 1) := by decide +kernel
theorem dX5_weightOfSale_17 : decode cX5_weightOfSale 17 = .ok (.iconst 1, 1) := by decide +kernel
theorem dX5_weightOfSale_18 : decode cX5_weightOfSale 18 = .ok (.if_icmp .ne 24, 3) := by decide +kernel
theorem dX5_weightOfSale_21 : decode cX5_weightOfSale 21 = .ok (.iload_n 3, 1) := by decide +kernel
theorem dX5_weightOfSale_22 : decode cX5_weightOfSale 22 = .ok (.iload_n 0, 1) := by decide +kernel
theorem dX5_weightOfSale_23 : decode cX5_weightOfSale 23 = .ok (.iload 4, 2) := by decide +kernel
theorem dX5_weightOfSale_25 : decode cX5_weightOfSale 25 = .ok (.ishr, 1) := by decide +kernel
theorem dX5_weightOfSale_26 : decode cX5_weightOfSale 26 = .ok (.iconst 1, 1) := by decide +kernel
theorem dX5_weightOfSale_27 : decode cX5_weightOfSale 27 = .ok (.iand, 1) := by decide +kernel
theorem dX5_weightOfSale_28 : decode cX5_weightOfSale 28 = .ok (.iconst 1, 1) := by decide +kernel
theorem dX5_weightOfSale_29 : decode cX5_weightOfSale 29 = .ok (.if_icmp .ne 7, 3) := by decide +kernel
theorem dX5_weightOfSale_32 : decode cX5_weightOfSale 32 = .ok (.iload_n 2, 1) := by decide +kernel
theorem dX5_weightOfSale_33 : decode cX5_weightOfSale 33 = .ok (.goto 7, 3) := by decide +kernel
theorem dX5_weightOfSale_36 : decode cX5_weightOfSale 36 = .ok (.bipush 10, 2) := by decide +kernel
theorem dX5_weightOfSale_38 : decode cX5_weightOfSale 38 = .ok (.iload_n 2, 1) := by decide +kernel
theorem dX5_weightOfSale_39 : decode cX5_weightOfSale 39 = .ok (.isub, 1) := by decide +kernel
theorem dX5_weightOfSale_40 : decode cX5_weightOfSale 40 = .ok (.imul, 1) := by decide +kernel
theorem dX5_weightOfSale_41 : decode cX5_weightOfSale 41 = .ok (.istore_n 3, 1) := by decide +kernel
theorem dX5_weightOfSale_42 : decode cX5_weightOfSale 42 = .ok (.iinc 4 1, 3) := by decide +kernel
theorem dX5_weightOfSale_45 : decode cX5_weightOfSale 45 = .ok (.goto (-40), 3) := by decide +kernel
theorem dX5_weightOfSale_48 : decode cX5_weightOfSale 48 = .ok (.iload_n 3, 1) := by decide +kernel
theorem dX5_weightOfSale_49 : decode cX5_weightOfSale 49 = .ok (.ireturn, 1) := by decide +kernel
theorem dX5_partOfFraction_0 : decode cX5_partOfFraction 0 = .ok (.iload_n 1, 1) := by decide +kernel
theorem dX5_partOfFraction_1 : decode cX5_partOfFraction 1 = .ok (.istore_n 3, 1) := by decide +kernel
theorem dX5_partOfFraction_2 : decode cX5_partOfFraction 2 = .ok (.iload_n 0, 1) := by decide +kernel
theorem dX5_partOfFraction_3 : decode cX5_partOfFraction 3 = .ok (.istore 4, 2) := by decide +kernel
theorem dX5_partOfFraction_5 : decode cX5_partOfFraction 5 = .ok (.iconst 0, 1) := by decide +kernel
theorem dX5_partOfFraction_6 : decode cX5_partOfFraction 6 = .ok (.istore 5, 2) := by decide +kernel
theorem dX5_partOfFraction_8 : decode cX5_partOfFraction 8 = .ok (.iload 5, 2) := by decide +kernel
theorem dX5_partOfFraction_10 : decode cX5_partOfFraction 10 = .ok (.bipush 48, 2) := by decide +kernel
theorem dX5_partOfFraction_12 : decode cX5_partOfFraction 12 = .ok (.if_icmp .ge 27, 3) := by decide +kernel
theorem dX5_partOfFraction_15 : decode cX5_partOfFraction 15 = .ok (.iload 4, 2) := by decide +kernel
theorem dX5_partOfFraction_17 : decode cX5_partOfFraction 17 = .ok (.ifCond .eq 22, 3) := by decide +kernel
theorem dX5_partOfFraction_20 : decode cX5_partOfFraction 20 = .ok (.iload_n 3, 1) := by decide +kernel
theorem dX5_partOfFraction_21 : decode cX5_partOfFraction 21 = .ok (.iload 4, 2) := by decide +kernel
theorem dX5_partOfFraction_23 : decode cX5_partOfFraction 23 = .ok (.irem, 1) := by decide +kernel
theorem dX5_partOfFraction_24 : decode cX5_partOfFraction 24 = .ok (.istore 6, 2) := by decide +kernel
theorem dX5_partOfFraction_26 : decode cX5_partOfFraction 26 = .ok (.iload 4, 2) := by decide +kernel
theorem dX5_partOfFraction_28 : decode cX5_partOfFraction 28 = .ok (.istore_n 3, 1) := by decide +kernel
theorem dX5_partOfFraction_29 : decode cX5_partOfFraction 29 = .ok (.iload 6, 2) := by decide +kernel
theorem dX5_partOfFraction_31 : decode cX5_partOfFraction 31 = .ok (.istore 4, 2) := by decide +kernel
theorem dX5_partOfFraction_33 : decode cX5_partOfFraction 33 = .ok (.iinc 5 1, 3) := by decide +kernel
theorem dX5_partOfFraction_36 : decode cX5_partOfFraction 36 = .ok (.goto (-28), 3) := by decide +kernel
theorem dX5_partOfFraction_39 : decode cX5_partOfFraction 39 = .ok (.iload_n 3, 1) := by decide +kernel
theorem dX5_partOfFraction_40 : decode cX5_partOfFraction 40 = .ok (.ifCond .ne 5, 3) := by decide +kernel
theorem dX5_partOfFraction_43 : decode cX5_partOfFraction 43 = .ok (.iconst 0, 1) := by decide +kernel
theorem dX5_partOfFraction_44 : decode cX5_partOfFraction 44 = .ok (.ireturn, 1) := by decide +kernel
theorem dX5_partOfFraction_45 : decode cX5_partOfFraction 45 = .ok (.iload_n 2, 1) := by decide +kernel
theorem dX5_partOfFraction_46 : decode cX5_partOfFraction 46 = .ok (.ifCond .eq 7, 3) := by decide +kernel
theorem dX5_partOfFraction_49 : decode cX5_partOfFraction 49 = .ok (.iload_n 0, 1) := by decide +kernel
theorem dX5_partOfFraction_50 : decode cX5_partOfFraction 50 = .ok (.goto 4, 3) := by decide +kernel
theorem dX5_partOfFraction_53 : decode cX5_partOfFraction 53 = .ok (.iload_n 1, 1) := by decide +kernel
theorem dX5_partOfFraction_54 : decode cX5_partOfFraction 54 = .ok (.iload_n 3, 1) := by decide +kernel
theorem dX5_partOfFraction_55 : decode cX5_partOfFraction 55 = .ok (.idiv, 1) := by decide +kernel
theorem dX5_partOfFraction_56 : decode cX5_partOfFraction 56 = .ok (.ireturn, 1) := by decide +kernel
theorem dX5_dueFor_0 : decode cX5_dueFor 0 = .ok (.iload_n 0, 1) := by decide +kernel
theorem dX5_dueFor_1 : decode cX5_dueFor 1 = .ok (.tableswitch 52 1 3 #[27, 33, 50], 27) := by decide +kernel
theorem dX5_dueFor_28 : decode cX5_dueFor 28 = .ok (.iload_n 1, 1) := by decide +kernel
theorem dX5_dueFor_29 : decode cX5_dueFor 29 = .ok (.iconst 2, 1) := by decide +kernel
theorem dX5_dueFor_30 : decode cX5_dueFor 30 = .ok (.iload_n 2, 1) := by decide +kernel
theorem dX5_dueFor_31 : decode cX5_dueFor 31 = .ok (.imul, 1) := by decide +kernel
theorem dX5_dueFor_32 : decode cX5_dueFor 32 = .ok (.iadd, 1) := by decide +kernel
theorem dX5_dueFor_33 : decode cX5_dueFor 33 = .ok (.ireturn, 1) := by decide +kernel
theorem dX5_dueFor_34 : decode cX5_dueFor 34 = .ok (.iload_n 3, 1) := by decide +kernel
theorem dX5_dueFor_35 : decode cX5_dueFor 35 = .ok (.bipush 7, 2) := by decide +kernel
theorem dX5_dueFor_37 : decode cX5_dueFor 37 = .ok (.irem, 1) := by decide +kernel
theorem dX5_dueFor_38 : decode cX5_dueFor 38 = .ok (.bipush 6, 2) := by decide +kernel
theorem dX5_dueFor_40 : decode cX5_dueFor 40 = .ok (.if_icmp .ne 7, 3) := by decide +kernel
theorem dX5_dueFor_43 : decode cX5_dueFor 43 = .ok (.iload_n 1, 1) := by decide +kernel
theorem dX5_dueFor_44 : decode cX5_dueFor 44 = .ok (.goto 6, 3) := by decide +kernel
theorem dX5_dueFor_47 : decode cX5_dueFor 47 = .ok (.iload_n 1, 1) := by decide +kernel
theorem dX5_dueFor_48 : decode cX5_dueFor 48 = .ok (.iload_n 2, 1) := by decide +kernel
theorem dX5_dueFor_49 : decode cX5_dueFor 49 = .ok (.iadd, 1) := by decide +kernel
theorem dX5_dueFor_50 : decode cX5_dueFor 50 = .ok (.ireturn, 1) := by decide +kernel
theorem dX5_dueFor_51 : decode cX5_dueFor 51 = .ok (.iload_n 1, 1) := by decide +kernel
theorem dX5_dueFor_52 : decode cX5_dueFor 52 = .ok (.ireturn, 1) := by decide +kernel
theorem dX5_dueFor_53 : decode cX5_dueFor 53 = .ok (.iload_n 1, 1) := by decide +kernel
theorem dX5_dueFor_54 : decode cX5_dueFor 54 = .ok (.iload_n 2, 1) := by decide +kernel
theorem dX5_dueFor_55 : decode cX5_dueFor 55 = .ok (.iadd, 1) := by decide +kernel
theorem dX5_dueFor_56 : decode cX5_dueFor 56 = .ok (.ireturn, 1) := by decide +kernel
theorem dX5_cell_0 : decode cX5_cell 0 = .ok (.iload_n 1, 1) := by decide +kernel
theorem dX5_cell_1 : decode cX5_cell 1 = .ok (.ifCond .lt 15, 3) := by decide +kernel
theorem dX5_cell_4 : decode cX5_cell 4 = .ok (.iload_n 1, 1) := by decide +kernel
theorem dX5_cell_5 : decode cX5_cell 5 = .ok (.aload_n 0, 1) := by decide +kernel
theorem dX5_cell_6 : decode cX5_cell 6 = .ok (.arraylength, 1) := by decide +kernel
theorem dX5_cell_7 : decode cX5_cell 7 = .ok (.if_icmp .ge 9, 3) := by decide +kernel
theorem dX5_cell_10 : decode cX5_cell 10 = .ok (.aload_n 0, 1) := by decide +kernel
theorem dX5_cell_11 : decode cX5_cell 11 = .ok (.iload_n 1, 1) := by decide +kernel
theorem dX5_cell_12 : decode cX5_cell 12 = .ok (.iaload, 1) := by decide +kernel
theorem dX5_cell_13 : decode cX5_cell 13 = .ok (.goto 4, 3) := by decide +kernel
theorem dX5_cell_16 : decode cX5_cell 16 = .ok (.iconst 0, 1) := by decide +kernel
theorem dX5_cell_17 : decode cX5_cell 17 = .ok (.ireturn, 1) := by decide +kernel
theorem dX5_put_0 : decode cX5_put 0 = .ok (.iload_n 1, 1) := by decide +kernel
theorem dX5_put_1 : decode cX5_put 1 = .ok (.ifCond .lt 13, 3) := by decide +kernel
theorem dX5_put_4 : decode cX5_put 4 = .ok (.iload_n 1, 1) := by decide +kernel
theorem dX5_put_5 : decode cX5_put 5 = .ok (.aload_n 0, 1) := by decide +kernel
theorem dX5_put_6 : decode cX5_put 6 = .ok (.arraylength, 1) := by decide +kernel
theorem dX5_put_7 : decode cX5_put 7 = .ok (.if_icmp .ge 7, 3) := by decide +kernel
theorem dX5_put_10 : decode cX5_put 10 = .ok (.aload_n 0, 1) := by decide +kernel
theorem dX5_put_11 : decode cX5_put 11 = .ok (.iload_n 1, 1) := by decide +kernel
theorem dX5_put_12 : decode cX5_put 12 = .ok (.iload_n 2, 1) := by decide +kernel
theorem dX5_put_13 : decode cX5_put 13 = .ok (.iastore, 1) := by decide +kernel
theorem dX5_put_14 : decode cX5_put 14 = .ok (.return_, 1) := by decide +kernel
theorem dX6_init_0 : decode cX6_init 0 = .ok (.aload_n 0, 1) := by decide +kernel
theorem dX6_init_1 : decode cX6_init 1 = .ok (.invokespecial 1, 3) := by decide +kernel
theorem dX6_init_4 : decode cX6_init 4 = .ok (.aload_n 0, 1) := by decide +kernel
theorem dX6_init_5 : decode cX6_init 5 = .ok (.bipush 48, 2) := by decide +kernel
theorem dX6_init_7 : decode cX6_init 7 = .ok (.newarray .int, 2) := by decide +kernel
theorem dX6_init_9 : decode cX6_init 9 = .ok (.putfield 7, 3) := by decide +kernel
theorem dX6_init_12 : decode cX6_init 12 = .ok (.aload_n 0, 1) := by decide +kernel
theorem dX6_init_13 : decode cX6_init 13 = .ok (.iconst 5, 1) := by decide +kernel
theorem dX6_init_14 : decode cX6_init 14 = .ok (.newarray .int, 2) := by decide +kernel
theorem dX6_init_16 : decode cX6_init 16 = .ok (.putfield 13, 3) := by decide +kernel
theorem dX6_init_19 : decode cX6_init 19 = .ok (.aload_n 0, 1) := by decide +kernel
theorem dX6_init_20 : decode cX6_init 20 = .ok (.iconst 5, 1) := by decide +kernel
theorem dX6_init_21 : decode cX6_init 21 = .ok (.newarray .int, 2) := by decide +kernel
theorem dX6_init_23 : decode cX6_init 23 = .ok (.putfield 16, 3) := by decide +kernel
theorem dX6_init_26 : decode cX6_init 26 = .ok (.aload_n 0, 1) := by decide +kernel
theorem dX6_init_27 : decode cX6_init 27 = .ok (.iconst 5, 1) := by decide +kernel
theorem dX6_init_28 : decode cX6_init 28 = .ok (.newarray .int, 2) := by decide +kernel
theorem dX6_init_30 : decode cX6_init 30 = .ok (.putfield 19, 3) := by decide +kernel
theorem dX6_init_33 : decode cX6_init 33 = .ok (.aload_n 0, 1) := by decide +kernel
theorem dX6_init_34 : decode cX6_init 34 = .ok (.iconst 5, 1) := by decide +kernel
theorem dX6_init_35 : decode cX6_init 35 = .ok (.newarray .int, 2) := by decide +kernel
theorem dX6_init_37 : decode cX6_init 37 = .ok (.putfield 22, 3) := by decide +kernel
theorem dX6_init_40 : decode cX6_init 40 = .ok (.aload_n 0, 1) := by decide +kernel
theorem dX6_init_41 : decode cX6_init 41 = .ok (.iconst 5, 1) := by decide +kernel
theorem dX6_init_42 : decode cX6_init 42 = .ok (.newarray .int, 2) := by decide +kernel
theorem dX6_init_44 : decode cX6_init 44 = .ok (.putfield 25, 3) := by decide +kernel
theorem dX6_init_47 : decode cX6_init 47 = .ok (.aload_n 0, 1) := by decide +kernel
theorem dX6_init_48 : decode cX6_init 48 = .ok (.iconst 5, 1) := by decide +kernel
theorem dX6_init_49 : decode cX6_init 49 = .ok (.newarray .int, 2) := by decide +kernel
theorem dX6_init_51 : decode cX6_init 51 = .ok (.putfield 28, 3) := by decide +kernel
theorem dX6_init_54 : decode cX6_init 54 = .ok (.aload_n 0, 1) := by decide +kernel
theorem dX6_init_55 : decode cX6_init 55 = .ok (.iconst 3, 1) := by decide +kernel
theorem dX6_init_56 : decode cX6_init 56 = .ok (.newarray .int, 2) := by decide +kernel
theorem dX6_init_58 : decode cX6_init 58 = .ok (.putfield 31, 3) := by decide +kernel
theorem dX6_init_61 : decode cX6_init 61 = .ok (.aload_n 0, 1) := by decide +kernel
theorem dX6_init_62 : decode cX6_init 62 = .ok (.bipush 15, 2) := by decide +kernel
theorem dX6_init_64 : decode cX6_init 64 = .ok (.newarray .int, 2) := by decide +kernel
theorem dX6_init_66 : decode cX6_init 66 = .ok (.putfield 34, 3) := by decide +kernel
theorem dX6_init_69 : decode cX6_init 69 = .ok (.aload_n 0, 1) := by decide +kernel
theorem dX6_init_70 : decode cX6_init 70 = .ok (.bipush 15, 2) := by decide +kernel
theorem dX6_init_72 : decode cX6_init 72 = .ok (.newarray .int, 2) := by decide +kernel
theorem dX6_init_74 : decode cX6_init 74 = .ok (.putfield 37, 3) := by decide +kernel
theorem dX6_init_77 : decode cX6_init 77 = .ok (.aload_n 0, 1) := by decide +kernel
theorem dX6_init_78 : decode cX6_init 78 = .ok (.bipush 20, 2) := by decide +kernel
theorem dX6_init_80 : decode cX6_init 80 = .ok (.newarray .int, 2) := by decide +kernel
theorem dX6_init_82 : decode cX6_init 82 = .ok (.putfield 40, 3) := by decide +kernel
theorem dX6_init_85 : decode cX6_init 85 = .ok (.aload_n 0, 1) := by decide +kernel
theorem dX6_init_86 : decode cX6_init 86 = .ok (.bipush 20, 2) := by decide +kernel
theorem dX6_init_88 : decode cX6_init 88 = .ok (.newarray .int, 2) := by decide +kernel
theorem dX6_init_90 : decode cX6_init 90 = .ok (.putfield 43, 3) := by decide +kernel
theorem dX6_init_93 : decode cX6_init 93 = .ok (.aload_n 0, 1) := by decide +kernel
theorem dX6_init_94 : decode cX6_init 94 = .ok (.sipush 280, 3) := by decide +kernel
theorem dX6_init_97 : decode cX6_init 97 = .ok (.newarray .int, 2) := by decide +kernel
theorem dX6_init_99 : decode cX6_init 99 = .ok (.putfield 46, 3) := by decide +kernel
theorem dX6_init_102 : decode cX6_init 102 = .ok (.aload_n 0, 1) := by decide +kernel
theorem dX6_init_103 : decode cX6_init 103 = .ok (.bipush 40, 2) := by decide +kernel
theorem dX6_init_105 : decode cX6_init 105 = .ok (.newarray .int, 2) := by decide +kernel
theorem dX6_init_107 : decode cX6_init 107 = .ok (.putfield 49, 3) := by decide +kernel
theorem dX6_init_110 : decode cX6_init 110 = .ok (.aload_n 0, 1) := by decide +kernel
theorem dX6_init_111 : decode cX6_init 111 = .ok (.iconst 2, 1) := by decide +kernel
theorem dX6_init_112 : decode cX6_init 112 = .ok (.newarray .boolean, 2) := by decide +kernel
theorem dX6_init_114 : decode cX6_init 114 = .ok (.putfield 52, 3) := by decide +kernel
theorem dX6_init_117 : decode cX6_init 117 = .ok (.aload_n 0, 1) := by decide +kernel
theorem dX6_init_118 : decode cX6_init 118 = .ok (.bipush 6, 2) := by decide +kernel
theorem dX6_init_120 : decode cX6_init 120 = .ok (.newarray .int, 2) := by decide +kernel
theorem dX6_init_122 : decode cX6_init 122 = .ok (.putfield 56, 3) := by decide +kernel
theorem dX6_init_125 : decode cX6_init 125 = .ok (.aload_n 0, 1) := by decide +kernel
theorem dX6_init_126 : decode cX6_init 126 = .ok (.bipush 6, 2) := by decide +kernel
theorem dX6_init_128 : decode cX6_init 128 = .ok (.newarray .int, 2) := by decide +kernel
theorem dX6_init_130 : decode cX6_init 130 = .ok (.putfield 59, 3) := by decide +kernel
theorem dX6_init_133 : decode cX6_init 133 = .ok (.aload_n 0, 1) := by decide +kernel
theorem dX6_init_134 : decode cX6_init 134 = .ok (.bipush 8, 2) := by decide +kernel
theorem dX6_init_136 : decode cX6_init 136 = .ok (.newarray .int, 2) := by decide +kernel
theorem dX6_init_138 : decode cX6_init 138 = .ok (.putfield 62, 3) := by decide +kernel
theorem dX6_init_141 : decode cX6_init 141 = .ok (.aload_n 0, 1) := by decide +kernel
theorem dX6_init_142 : decode cX6_init 142 = .ok (.bipush 32, 2) := by decide +kernel
theorem dX6_init_144 : decode cX6_init 144 = .ok (.newarray .int, 2) := by decide +kernel
theorem dX6_init_146 : decode cX6_init 146 = .ok (.putfield 65, 3) := by decide +kernel
theorem dX6_init_149 : decode cX6_init 149 = .ok (.return_, 1) := by decide +kernel
theorem dX6_in_0 : decode cX6_in 0 = .ok (.lload_n 0, 1) := by decide +kernel
theorem dX6_in_1 : decode cX6_in 1 = .ok (.lload_n 2, 1) := by decide +kernel
theorem dX6_in_2 : decode cX6_in 2 = .ok (.lcmp, 1) := by decide +kernel
theorem dX6_in_3 : decode cX6_in 3 = .ok (.ifCond .lt 14, 3) := by decide +kernel
theorem dX6_in_6 : decode cX6_in 6 = .ok (.lload_n 0, 1) := by decide +kernel
theorem dX6_in_7 : decode cX6_in 7 = .ok (.lload 4, 2) := by decide +kernel
theorem dX6_in_9 : decode cX6_in 9 = .ok (.lcmp, 1) := by decide +kernel
theorem dX6_in_10 : decode cX6_in 10 = .ok (.ifCond .gt 7, 3) := by decide +kernel
theorem dX6_in_13 : decode cX6_in 13 = .ok (.iconst 1, 1) := by decide +kernel
theorem dX6_in_14 : decode cX6_in 14 = .ok (.goto 4, 3) := by decide +kernel
theorem dX6_in_17 : decode cX6_in 17 = .ok (.iconst 0, 1) := by decide +kernel
theorem dX6_in_18 : decode cX6_in 18 = .ok (.ireturn, 1) := by decide +kernel
theorem dX6_has_0 : decode cX6_has 0 = .ok (.iload_n 0, 1) := by decide +kernel
theorem dX6_has_1 : decode cX6_has 1 = .ok (.iload_n 1, 1) := by decide +kernel
theorem dX6_has_2 : decode cX6_has 2 = .ok (.ishr, 1) := by decide +kernel
theorem dX6_has_3 : decode cX6_has 3 = .ok (.iconst 1, 1) := by decide +kernel
theorem dX6_has_4 : decode cX6_has 4 = .ok (.iand, 1) := by decide +kernel
theorem dX6_has_5 : decode cX6_has 5 = .ok (.iconst 1, 1) := by decide +kernel
theorem dX6_has_6 : decode cX6_has 6 = .ok (.if_icmp .ne 7, 3) := by decide +kernel
theorem dX6_has_9 : decode cX6_has 9 = .ok (.iconst 1, 1) := by decide +kernel
theorem dX6_has_10 : decode cX6_has 10 = .ok (.goto 4, 3) := by decide +kernel
theorem dX6_has_13 : decode cX6_has 13 = .ok (.iconst 0, 1) := by decide +kernel
theorem dX6_has_14 : decode cX6_has 14 = .ok (.ireturn, 1) := by decide +kernel
theorem dX6_many_0 : decode cX6_many 0 = .ok (.iconst 0, 1) := by decide +kernel
theorem dX6_many_1 : decode cX6_many 1 = .ok (.istore_n 1, 1) := by decide +kernel
theorem dX6_many_2 : decode cX6_many 2 = .ok (.iconst 0, 1) := by decide +kernel
theorem dX6_many_3 : decode cX6_many 3 = .ok (.istore_n 2, 1) := by decide +kernel
theorem dX6_many_4 : decode cX6_many 4 = .ok (.iload_n 2, 1) := by decide +kernel
theorem dX6_many_5 : decode cX6_many 5 = .ok (.iconst 5, 1) := by decide +kernel
theorem dX6_many_6 : decode cX6_many 6 = .ok (.if_icmp .ge 17, 3) := by decide +kernel
theorem dX6_many_9 : decode cX6_many 9 = .ok (.iload_n 1, 1) := by decide +kernel
theorem dX6_many_10 : decode cX6_many 10 = .ok (.iload_n 0, 1) := by decide +kernel
theorem dX6_many_11 : decode cX6_many 11 = .ok (.iload_n 2, 1) := by decide +kernel
theorem dX6_many_12 : decode cX6_many 12 = .ok (.ishr, 1) := by decide +kernel
theorem dX6_many_13 : decode cX6_many 13 = .ok (.iconst 1, 1) := by decide +kernel
theorem dX6_many_14 : decode cX6_many 14 = .ok (.iand, 1) := by decide +kernel
theorem dX6_many_15 : decode cX6_many 15 = .ok (.iadd, 1) := by decide +kernel
theorem dX6_many_16 : decode cX6_many 16 = .ok (.istore_n 1, 1) := by decide +kernel
theorem dX6_many_17 : decode cX6_many 17 = .ok (.iinc 2 1, 3) := by decide +kernel
theorem dX6_many_20 : decode cX6_many 20 = .ok (.goto (-16), 3) := by decide +kernel
theorem dX6_many_23 : decode cX6_many 23 = .ok (.iload_n 1, 1) := by decide +kernel
theorem dX6_many_24 : decode cX6_many 24 = .ok (.ireturn, 1) := by decide +kernel
theorem dX6_power_0 : decode cX6_power 0 = .ok (.iconst 1, 1) := by decide +kernel
theorem dX6_power_1 : decode cX6_power 1 = .ok (.istore_n 2, 1) := by decide +kernel
theorem dX6_power_2 : decode cX6_power 2 = .ok (.iconst 0, 1) := by decide +kernel
theorem dX6_power_3 : decode cX6_power 3 = .ok (.istore_n 3, 1) := by decide +kernel
theorem dX6_power_4 : decode cX6_power 4 = .ok (.iload_n 3, 1) := by decide +kernel
theorem dX6_power_5 : decode cX6_power 5 = .ok (.iload_n 1, 1) := by decide +kernel
theorem dX6_power_6 : decode cX6_power 6 = .ok (.if_icmp .ge 13, 3) := by decide +kernel
theorem dX6_power_9 : decode cX6_power 9 = .ok (.iload_n 2, 1) := by decide +kernel
theorem dX6_power_10 : decode cX6_power 10 = .ok (.iload_n 0, 1) := by decide +kernel
theorem dX6_power_11 : decode cX6_power 11 = .ok (.imul, 1) := by decide +kernel
theorem dX6_power_12 : decode cX6_power 12 = .ok (.istore_n 2, 1) := by decide +kernel
theorem dX6_power_13 : decode cX6_power 13 = .ok (.iinc 3 1, 3) := by decide +kernel
theorem dX6_power_16 : decode cX6_power 16 = .ok (.goto (-12), 3) := by decide +kernel
theorem dX6_power_19 : decode cX6_power 19 = .ok (.iload_n 2, 1) := by decide +kernel
theorem dX6_power_20 : decode cX6_power 20 = .ok (.ireturn, 1) := by decide +kernel
theorem dX6_noPerson_0 : decode cX6_noPerson 0 = .ok (.iload_n 1, 1) := by decide +kernel
theorem dX6_noPerson_1 : decode cX6_noPerson 1 = .ok (.i2l, 1) := by decide +kernel
theorem dX6_noPerson_2 : decode cX6_noPerson 2 = .ok (.lconst 0, 1) := by decide +kernel
theorem dX6_noPerson_3 : decode cX6_noPerson 3 = .ok (.aload_n 0, 1) := by decide +kernel
theorem dX6_noPerson_4 : decode cX6_noPerson 4 = .ok (.getfield 72, 3) := by decide +kernel
theorem dX6_noPerson_7 : decode cX6_noPerson 7 = .ok (.iconst 1, 1) := by decide +kernel
theorem dX6_noPerson_8 : decode cX6_noPerson 8 = .ok (.isub, 1) := by decide +kernel
theorem dX6_noPerson_9 : decode cX6_noPerson 9 = .ok (.i2l, 1) := by decide +kernel
theorem dX6_noPerson_10 : decode cX6_noPerson 10 = .ok (.invokestatic 75, 3) := by decide +kernel
theorem dX6_noPerson_13 : decode cX6_noPerson 13 = .ok (.ifCond .ne 7, 3) := by decide +kernel
theorem dX6_noPerson_16 : decode cX6_noPerson 16 = .ok (.iconst 1, 1) := by decide +kernel
theorem dX6_noPerson_17 : decode cX6_noPerson 17 = .ok (.goto 4, 3) := by decide +kernel
theorem dX6_noPerson_20 : decode cX6_noPerson 20 = .ok (.iconst 0, 1) := by decide +kernel
theorem dX6_noPerson_21 : decode cX6_noPerson 21 = .ok (.ireturn, 1) := by decide +kernel
theorem dX6_noQuality_0 : decode cX6_noQuality 0 = .ok (.iload_n 1, 1) := by decide +kernel
theorem dX6_noQuality_1 : decode cX6_noQuality 1 = .ok (.i2l, 1) := by decide +kernel
theorem dX6_noQuality_2 : decode cX6_noQuality 2 = .ok (.lconst 0, 1) := by decide +kernel
theorem dX6_noQuality_3 : decode cX6_noQuality 3 = .ok (.aload_n 0, 1) := by decide +kernel
theorem dX6_noQuality_4 : decode cX6_noQuality 4 = .ok (.getfield 79, 3) := by decide +kernel
theorem dX6_noQuality_7 : decode cX6_noQuality 7 = .ok (.iconst 1, 1) := by decide +kernel
theorem dX6_noQuality_8 : decode cX6_noQuality 8 = .ok (.isub, 1) := by decide +kernel
theorem dX6_noQuality_9 : decode cX6_noQuality 9 = .ok (.i2l, 1) := by decide +kernel
theorem dX6_noQuality_10 : decode cX6_noQuality 10 = .ok (.invokestatic 75, 3) := by decide +kernel
theorem dX6_noQuality_13 : decode cX6_noQuality 13 = .ok (.ifCond .ne 7, 3) := by decide +kernel
theorem dX6_noQuality_16 : decode cX6_noQuality 16 = .ok (.iconst 1, 1) := by decide +kernel
theorem dX6_noQuality_17 : decode cX6_noQuality 17 = .ok (.goto 4, 3) := by decide +kernel
theorem dX6_noQuality_20 : decode cX6_noQuality 20 = .ok (.iconst 0, 1) := by decide +kernel
theorem dX6_noQuality_21 : decode cX6_noQuality 21 = .ok (.ireturn, 1) := by decide +kernel
theorem dX6_noDeed_0 : decode cX6_noDeed 0 = .ok (.iload_n 1, 1) := by decide +kernel
theorem dX6_noDeed_1 : decode cX6_noDeed 1 = .ok (.i2l, 1) := by decide +kernel
theorem dX6_noDeed_2 : decode cX6_noDeed 2 = .ok (.lconst 0, 1) := by decide +kernel
theorem dX6_noDeed_3 : decode cX6_noDeed 3 = .ok (.aload_n 0, 1) := by decide +kernel
theorem dX6_noDeed_4 : decode cX6_noDeed 4 = .ok (.getfield 82, 3) := by decide +kernel
theorem dX6_noDeed_7 : decode cX6_noDeed 7 = .ok (.iconst 1, 1) := by decide +kernel
theorem dX6_noDeed_8 : decode cX6_noDeed 8 = .ok (.isub, 1) := by decide +kernel
theorem dX6_noDeed_9 : decode cX6_noDeed 9 = .ok (.i2l, 1) := by decide +kernel
theorem dX6_noDeed_10 : decode cX6_noDeed 10 = .ok (.invokestatic 75, 3) := by decide +kernel
theorem dX6_noDeed_13 : decode cX6_noDeed 13 = .ok (.ifCond .ne 7, 3) := by decide +kernel
theorem dX6_noDeed_16 : decode cX6_noDeed 16 = .ok (.iconst 1, 1) := by decide +kernel
theorem dX6_noDeed_17 : decode cX6_noDeed 17 = .ok (.goto 4, 3) := by decide +kernel
theorem dX6_noDeed_20 : decode cX6_noDeed 20 = .ok (.iconst 0, 1) := by decide +kernel
theorem dX6_noDeed_21 : decode cX6_noDeed 21 = .ok (.ireturn, 1) := by decide +kernel
theorem dX6_write_0 : decode cX6_write 0 = .ok (.aload_n 0, 1) := by decide +kernel
theorem dX6_write_1 : decode cX6_write 1 = .ok (.iconst 0, 1) := by decide +kernel
theorem dX6_write_2 : decode cX6_write 2 = .ok (.putfield 68, 3) := by decide +kernel
theorem dX6_write_5 : decode cX6_write 5 = .ok (.iload_n 1, 1) := by decide +kernel
theorem dX6_write_6 : decode cX6_write 6 = .ok (.i2l, 1) := by decide +kernel
theorem dX6_write_7 : decode cX6_write 7 = .ok (.lconst 0, 1) := by decide +kernel
theorem dX6_write_8 : decode cX6_write 8 = .ok (.ldc2_w 85, 3) := by decide +kernel
theorem dX6_write_11 : decode cX6_write 11 = .ok (.invokestatic 75, 3) := by decide +kernel
theorem dX6_write_14 : decode cX6_write 14 = .ok (.ifCond .ne 6, 3) := by decide +kernel
theorem dX6_write_17 : decode cX6_write 17 = .ok (.bipush (-2), 2) := by decide +kernel
theorem dX6_write_19 : decode cX6_write 19 = .ok (.ireturn, 1) := by decide +kernel
theorem dX6_write_20 : decode cX6_write 20 = .ok (.aload_n 0, 1) := by decide +kernel
theorem dX6_write_21 : decode cX6_write 21 = .ok (.getfield 87, 3) := by decide +kernel
theorem dX6_write_24 : decode cX6_write 24 = .ok (.bipush 48, 2) := by decide +kernel
theorem dX6_write_26 : decode cX6_write 26 = .ok (.if_icmp .ne 6, 3) := by decide +kernel
theorem dX6_write_29 : decode cX6_write 29 = .ok (.bipush (-4), 2) := by decide +kernel
theorem dX6_write_31 : decode cX6_write 31 = .ok (.ireturn, 1) := by decide +kernel
theorem dX6_write_32 : decode cX6_write 32 = .ok (.aload_n 0, 1) := by decide +kernel
theorem dX6_write_33 : decode cX6_write 33 = .ok (.getfield 7, 3) := by decide +kernel
theorem dX6_write_36 : decode cX6_write 36 = .ok (.aload_n 0, 1) := by decide +kernel
theorem dX6_write_37 : decode cX6_write 37 = .ok (.getfield 87, 3) := by decide +kernel
theorem dX6_write_40 : decode cX6_write 40 = .ok (.iload_n 1, 1) := by decide +kernel
theorem dX6_write_41 : decode cX6_write 41 = .ok (.iastore, 1) := by decide +kernel
theorem dX6_write_42 : decode cX6_write 42 = .ok (.aload_n 0, 1) := by decide +kernel
theorem dX6_write_43 : decode cX6_write 43 = .ok (.dup, 1) := by decide +kernel
theorem dX6_write_44 : decode cX6_write 44 = .ok (.getfield 87, 3) := by decide +kernel
theorem dX6_write_47 : decode cX6_write 47 = .ok (.iconst 1, 1) := by decide +kernel
theorem dX6_write_48 : decode cX6_write 48 = .ok (.iadd, 1) := by decide +kernel
theorem dX6_write_49 : decode cX6_write 49 = .ok (.putfield 87, 3) := by decide +kernel
theorem dX6_write_52 : decode cX6_write 52 = .ok (.aload_n 0, 1) := by decide +kernel
theorem dX6_write_53 : decode cX6_write 53 = .ok (.getfield 87, 3) := by decide +kernel
theorem dX6_write_56 : decode cX6_write 56 = .ok (.ireturn, 1) := by decide +kernel
theorem dX6_wipe_0 : decode cX6_wipe 0 = .ok (.aload_n 0, 1) := by decide +kernel
theorem dX6_wipe_1 : decode cX6_wipe 1 = .ok (.iconst 0, 1) := by decide +kernel
theorem dX6_wipe_2 : decode cX6_wipe 2 = .ok (.putfield 68, 3) := by decide +kernel
theorem dX6_wipe_5 : decode cX6_wipe 5 = .ok (.aload_n 0, 1) := by decide +kernel
theorem dX6_wipe_6 : decode cX6_wipe 6 = .ok (.getfield 87, 3) := by decide +kernel
theorem dX6_wipe_9 : decode cX6_wipe 9 = .ok (.istore_n 1, 1) := by decide +kernel
theorem dX6_wipe_10 : decode cX6_wipe 10 = .ok (.aload_n 0, 1) := by decide +kernel
theorem dX6_wipe_11 : decode cX6_wipe 11 = .ok (.iconst 0, 1) := by decide +kernel
theorem dX6_wipe_12 : decode cX6_wipe 12 = .ok (.putfield 87, 3) := by decide +kernel
theorem dX6_wipe_15 : decode cX6_wipe 15 = .ok (.iload_n 1, 1) := by decide +kernel
theorem dX6_wipe_16 : decode cX6_wipe 16 = .ok (.ireturn, 1) := by decide +kernel
theorem dX6_figure_0 : decode cX6_figure 0 = .ok (.aload_n 0, 1) := by decide +kernel
theorem dX6_figure_1 : decode cX6_figure 1 = .ok (.getfield 90, 3) := by decide +kernel
theorem dX6_figure_4 : decode cX6_figure 4 = .ok (.aload_n 0, 1) := by decide +kernel
theorem dX6_figure_5 : decode cX6_figure 5 = .ok (.getfield 87, 3) := by decide +kernel
theorem dX6_figure_8 : decode cX6_figure 8 = .ok (.if_icmp .eq 26, 3) := by decide +kernel
theorem dX6_figure_11 : decode cX6_figure 11 = .ok (.aload_n 0, 1) := by decide +kernel
theorem dX6_figure_12 : decode cX6_figure 12 = .ok (.getfield 7, 3) := by decide +kernel
theorem dX6_figure_15 : decode cX6_figure 15 = .ok (.aload_n 0, 1) := by decide +kernel
theorem dX6_figure_16 : decode cX6_figure 16 = .ok (.getfield 90, 3) := by decide +kernel
theorem dX6_figure_19 : decode cX6_figure 19 = .ok (.iaload, 1) := by decide +kernel
theorem dX6_figure_20 : decode cX6_figure 20 = .ok (.bipush 48, 2) := by decide +kernel
theorem dX6_figure_22 : decode cX6_figure 22 = .ok (.isub, 1) := by decide +kernel
theorem dX6_figure_23 : decode cX6_figure 23 = .ok (.i2l, 1) := by decide +kernel
theorem dX6_figure_24 : decode cX6_figure 24 = .ok (.iload_n 1, 1) := by decide +kernel
theorem dX6_figure_25 : decode cX6_figure 25 = .ok (.i2l, 1) := by decide +kernel
theorem dX6_figure_26 : decode cX6_figure 26 = .ok (.iload_n 2, 1) := by decide +kernel
theorem dX6_figure_27 : decode cX6_figure 27 = .ok (.i2l, 1) := by decide +kernel
theorem dX6_figure_28 : decode cX6_figure 28 = .ok (.invokestatic 75, 3) := by decide +kernel
theorem dX6_figure_31 : decode cX6_figure 31 = .ok (.ifCond .ne 6, 3) := by decide +kernel
theorem dX6_figure_34 : decode cX6_figure 34 = .ok (.bipush (-9), 2) := by decide +kernel
theorem dX6_figure_36 : decode cX6_figure 36 = .ok (.ireturn, 1) := by decide +kernel
theorem dX6_figure_37 : decode cX6_figure 37 = .ok (.aload_n 0, 1) := by decide +kernel
theorem dX6_figure_38 : decode cX6_figure 38 = .ok (.dup, 1) := by decide +kernel
theorem dX6_figure_39 : decode cX6_figure 39 = .ok (.getfield 90, 3) := by decide +kernel
theorem dX6_figure_42 : decode cX6_figure 42 = .ok (.iconst 1, 1) := by decide +kernel
theorem dX6_figure_43 : decode cX6_figure 43 = .ok (.iadd, 1) := by decide +kernel
theorem dX6_figure_44 : decode cX6_figure 44 = .ok (.putfield 90, 3) := by decide +kernel
theorem dX6_figure_47 : decode cX6_figure 47 = .ok (.aload_n 0, 1) := by decide +kernel
theorem dX6_figure_48 : decode cX6_figure 48 = .ok (.getfield 7, 3) := by decide +kernel
theorem dX6_figure_51 : decode cX6_figure 51 = .ok (.aload_n 0, 1) := by decide +kernel
theorem dX6_figure_52 : decode cX6_figure 52 = .ok (.getfield 90, 3) := by decide +kernel
theorem dX6_figure_55 : decode cX6_figure 55 = .ok (.iconst 1, 1) := by decide +kernel
theorem dX6_figure_56 : decode cX6_figure 56 = .ok (.isub, 1) := by decide +kernel
theorem dX6_figure_57 : decode cX6_figure 57 = .ok (.iaload, 1) := by decide +kernel
theorem dX6_figure_58 : decode cX6_figure 58 = .ok (.bipush 48, 2) := by decide +kernel
theorem dX6_figure_60 : decode cX6_figure 60 = .ok (.isub, 1) := by decide +kernel
theorem dX6_figure_61 : decode cX6_figure 61 = .ok (.ireturn, 1) := by decide +kernel
theorem dX6_readOnePerson_0 : decode cX6_readOnePerson 0 = .ok (.aload_n 0, 1) := by decide +kernel
theorem dX6_readOnePerson_1 : decode cX6_readOnePerson 1 = .ok (.iconst 0, 1) := by decide +kernel
theorem dX6_readOnePerson_2 : decode cX6_readOnePerson 2 = .ok (.bipush 9, 2) := by decide +kernel
theorem dX6_readOnePerson_4 : decode cX6_readOnePerson 4 = .ok (.invokevirtual 93, 3) := by decide +kernel
theorem dX6_readOnePerson_7 : decode cX6_readOnePerson 7 = .ok (.istore_n 1, 1) := by decide +kernel
theorem dX6_readOnePerson_8 : decode cX6_readOnePerson 8 = .ok (.iload_n 1, 1) := by decide +kernel
theorem dX6_readOnePerson_9 : decode cX6_readOnePerson 9 = .ok (.bipush (-9), 2) := by decide +kernel
theorem dX6_readOnePerson_11 : decode cX6_readOnePerson 11 = .ok (.if_icmp .ne 5, 3) := by decide +kernel
theorem dX6_readOnePerson_14 : decode cX6_readOnePerson 14 = .ok (.iconst 0, 1) := by decide +kernel
theorem dX6_readOnePerson_15 : decode cX6_readOnePerson 15 = .ok (.ireturn, 1) := by decide +kernel
theorem dX6_readOnePerson_16 : decode cX6_readOnePerson 16 = .ok (.aload_n 0, 1) := by decide +kernel
theorem dX6_readOnePerson_17 : decode cX6_readOnePerson 17 = .ok (.getfield 31, 3) := by decide +kernel
theorem dX6_readOnePerson_20 : decode cX6_readOnePerson 20 = .ok (.aload_n 0, 1) := by decide +kernel
theorem dX6_readOnePerson_21 : decode cX6_readOnePerson 21 = .ok (.getfield 97, 3) := by decide +kernel
theorem dX6_readOnePerson_24 : decode cX6_readOnePerson 24 = .ok (.iload_n 1, 1) := by decide +kernel
theorem dX6_readOnePerson_25 : decode cX6_readOnePerson 25 = .ok (.iastore, 1) := by decide +kernel
theorem dX6_readOnePerson_26 : decode cX6_readOnePerson 26 = .ok (.aload_n 0, 1) := by decide +kernel
theorem dX6_readOnePerson_27 : decode cX6_readOnePerson 27 = .ok (.dup, 1) := by decide +kernel
theorem dX6_readOnePerson_28 : decode cX6_readOnePerson 28 = .ok (.getfield 97, 3) := by decide +kernel
theorem dX6_readOnePerson_31 : decode cX6_readOnePerson 31 = .ok (.iconst 1, 1) := by decide +kernel
theorem dX6_readOnePerson_32 : decode cX6_readOnePerson 32 = .ok (.iadd, 1) := by decide +kernel
theorem dX6_readOnePerson_33 : decode cX6_readOnePerson 33 = .ok (.putfield 97, 3) := by decide +kernel
theorem dX6_readOnePerson_36 : decode cX6_readOnePerson 36 = .ok (.iconst 1, 1) := by decide +kernel
theorem dX6_readOnePerson_37 : decode cX6_readOnePerson 37 = .ok (.ireturn, 1) := by decide +kernel
theorem dX6_readOneQuality_0 : decode cX6_readOneQuality 0 = .ok (.aload_n 0, 1) := by decide +kernel
theorem dX6_readOneQuality_1 : decode cX6_readOneQuality 1 = .ok (.iconst 0, 1) := by decide +kernel
theorem dX6_readOneQuality_2 : decode cX6_readOneQuality 2 = .ok (.aload_n 0, 1) := by decide +kernel
theorem dX6_readOneQuality_3 : decode cX6_readOneQuality 3 = .ok (.getfield 97, 3) := by decide +kernel
theorem dX6_readOneQuality_6 : decode cX6_readOneQuality 6 = .ok (.iconst 1, 1) := by decide +kernel
theorem dX6_readOneQuality_7 : decode cX6_readOneQuality 7 = .ok (.isub, 1) := by decide +kernel
theorem dX6_readOneQuality_8 : decode cX6_readOneQuality 8 = .ok (.invokevirtual 93, 3) := by decide +kernel
theorem dX6_readOneQuality_11 : decode cX6_readOneQuality 11 = .ok (.istore_n 1, 1) := by decide +kernel
theorem dX6_readOneQuality_12 : decode cX6_readOneQuality 12 = .ok (.iload_n 1, 1) := by decide +kernel
theorem dX6_readOneQuality_13 : decode cX6_readOneQuality 13 = .ok (.bipush (-9), 2) := by decide +kernel
theorem dX6_readOneQuality_15 : decode cX6_readOneQuality 15 = .ok (.if_icmp .ne 8, 3) := by decide +kernel
theorem dX6_readOneQuality_18 : decode cX6_readOneQuality 18 = .ok (.bipush (-9), 2) := by decide +kernel
theorem dX6_readOneQuality_20 : decode cX6_readOneQuality 20 = .ok (.goto 10, 3) := by decide +kernel
theorem dX6_readOneQuality_23 : decode cX6_readOneQuality 23 = .ok (.aload_n 0, 1) := by decide +kernel
theorem dX6_readOneQuality_24 : decode cX6_readOneQuality 24 = .ok (.iconst 1, 1) := by decide +kernel
theorem dX6_readOneQuality_25 : decode cX6_readOneQuality 25 = .ok (.bipush 9, 2) := by decide +kernel
theorem dX6_readOneQuality_27 : decode cX6_readOneQuality 27 = .ok (.invokevirtual 93, 3) := by decide +kernel
theorem dX6_readOneQuality_30 : decode cX6_readOneQuality 30 = .ok (.istore_n 2, 1) := by decide +kernel
theorem dX6_readOneQuality_31 : decode cX6_readOneQuality 31 = .ok (.iload_n 2, 1) := by decide +kernel
theorem dX6_readOneQuality_32 : decode cX6_readOneQuality 32 = .ok (.bipush (-9), 2) := by decide +kernel
theorem dX6_readOneQuality_34 : decode cX6_readOneQuality 34 = .ok (.if_icmp .ne 8, 3) := by decide +kernel
theorem dX6_readOneQuality_37 : decode cX6_readOneQuality 37 = .ok (.bipush (-9), 2) := by decide +kernel
theorem dX6_readOneQuality_39 : decode cX6_readOneQuality 39 = .ok (.goto 9, 3) := by decide +kernel
theorem dX6_readOneQuality_42 : decode cX6_readOneQuality 42 = .ok (.aload_n 0, 1) := by decide +kernel
theorem dX6_readOneQuality_43 : decode cX6_readOneQuality 43 = .ok (.iconst 0, 1) := by decide +kernel
theorem dX6_readOneQuality_44 : decode cX6_readOneQuality 44 = .ok (.iconst 3, 1) := by decide +kernel
theorem dX6_readOneQuality_45 : decode cX6_readOneQuality 45 = .ok (.invokevirtual 93, 3) := by decide +kernel
theorem dX6_readOneQuality_48 : decode cX6_readOneQuality 48 = .ok (.istore_n 3, 1) := by decide +kernel
theorem dX6_readOneQuality_49 : decode cX6_readOneQuality 49 = .ok (.iload_n 3, 1) := by decide +kernel
theorem dX6_readOneQuality_50 : decode cX6_readOneQuality 50 = .ok (.bipush (-9), 2) := by decide +kernel
theorem dX6_readOneQuality_52 : decode cX6_readOneQuality 52 = .ok (.if_icmp .ne 5, 3) := by decide +kernel
theorem dX6_readOneQuality_55 : decode cX6_readOneQuality 55 = .ok (.iconst 0, 1) := by decide +kernel
theorem dX6_readOneQuality_56 : decode cX6_readOneQuality 56 = .ok (.ireturn, 1) := by decide +kernel
theorem dX6_readOneQuality_57 : decode cX6_readOneQuality 57 = .ok (.aload_n 0, 1) := by decide +kernel
theorem dX6_readOneQuality_58 : decode cX6_readOneQuality 58 = .ok (.getfield 34, 3) := by decide +kernel
theorem dX6_readOneQuality_61 : decode cX6_readOneQuality 61 = .ok (.iconst 3, 1) := by decide +kernel
theorem dX6_readOneQuality_62 : decode cX6_readOneQuality 62 = .ok (.aload_n 0, 1) := by decide +kernel
theorem dX6_readOneQuality_63 : decode cX6_readOneQuality 63 = .ok (.getfield 100, 3) := by decide +kernel
theorem dX6_readOneQuality_66 : decode cX6_readOneQuality 66 = .ok (.imul, 1) := by decide +kernel
theorem dX6_readOneQuality_67 : decode cX6_readOneQuality 67 = .ok (.iload_n 1, 1) := by decide +kernel
theorem dX6_readOneQuality_68 : decode cX6_readOneQuality 68 = .ok (.iastore, 1) := by decide +kernel
theorem dX6_readOneQuality_69 : decode cX6_readOneQuality 69 = .ok (.aload_n 0, 1) := by decide +kernel
theorem dX6_readOneQuality_70 : decode cX6_readOneQuality 70 = .ok (.getfield 34, 3) := by decide +kernel
theorem dX6_readOneQuality_73 : decode cX6_readOneQuality 73 = .ok (.iconst 3, 1) := by decide +kernel
theorem dX6_readOneQuality_74 : decode cX6_readOneQuality 74 = .ok (.aload_n 0, 1) := by decide +kernel
theorem dX6_readOneQuality_75 : decode cX6_readOneQuality 75 = .ok (.getfield 100, 3) := by decide +kernel
theorem dX6_readOneQuality_78 : decode cX6_readOneQuality 78 = .ok (.imul, 1) := by decide +kernel
theorem dX6_readOneQuality_79 : decode cX6_readOneQuality 79 = .ok (.iconst 1, 1) := by decide +kernel
theorem dX6_readOneQuality_80 : decode cX6_readOneQuality 80 = .ok (.iadd, 1) := by decide +kernel
theorem dX6_readOneQuality_81 : decode cX6_readOneQuality 81 = .ok (.iload_n 2, 1) := by decide +kernel
theorem dX6_readOneQuality_82 : decode cX6_readOneQuality 82 = .ok (.iastore, 1) := by decide +kernel
theorem dX6_readOneQuality_83 : decode cX6_readOneQuality 83 = .ok (.aload_n 0, 1) := by decide +kernel
theorem dX6_readOneQuality_84 : decode cX6_readOneQuality 84 = .ok (.getfield 34, 3) := by decide +kernel
theorem dX6_readOneQuality_87 : decode cX6_readOneQuality 87 = .ok (.iconst 3, 1) := by decide +kernel
theorem dX6_readOneQuality_88 : decode cX6_readOneQuality 88 = .ok (.aload_n 0, 1) := by decide +kernel
theorem dX6_readOneQuality_89 : decode cX6_readOneQuality 89 = .ok (.getfield 100, 3) := by decide +kernel
theorem dX6_readOneQuality_92 : decode cX6_readOneQuality 92 = .ok (.imul, 1) := by decide +kernel
theorem dX6_readOneQuality_93 : decode cX6_readOneQuality 93 = .ok (.iconst 2, 1) := by decide +kernel
theorem dX6_readOneQuality_94 : decode cX6_readOneQuality 94 = .ok (.iadd, 1) := by decide +kernel
theorem dX6_readOneQuality_95 : decode cX6_readOneQuality 95 = .ok (.iload_n 3, 1) := by decide +kernel
theorem dX6_readOneQuality_96 : decode cX6_readOneQuality 96 = .ok (.iastore, 1) := by decide +kernel
theorem dX6_readOneQuality_97 : decode cX6_readOneQuality 97 = .ok (.aload_n 0, 1) := by decide +kernel
theorem dX6_readOneQuality_98 : decode cX6_readOneQuality 98 = .ok (.dup, 1) := by decide +kernel
theorem dX6_readOneQuality_99 : decode cX6_readOneQuality 99 = .ok (.getfield 100, 3) := by decide +kernel
theorem dX6_readOneQuality_102 : decode cX6_readOneQuality 102 = .ok (.iconst 1, 1) := by decide +kernel
theorem dX6_readOneQuality_103 : decode cX6_readOneQuality 103 = .ok (.iadd, 1) := by decide +kernel
theorem dX6_readOneQuality_104 : decode cX6_readOneQuality 104 = .ok (.putfield 100, 3) := by decide +kernel
theorem dX6_readOneQuality_107 : decode cX6_readOneQuality 107 = .ok (.iconst 1, 1) := by decide +kernel
theorem dX6_readOneQuality_108 : decode cX6_readOneQuality 108 = .ok (.ireturn, 1) := by decide +kernel
theorem dX6_readOneDeed_0 : decode cX6_readOneDeed 0 = .ok (.aload_n 0, 1) := by decide +kernel
theorem dX6_readOneDeed_1 : decode cX6_readOneDeed 1 = .ok (.iconst 0, 1) := by decide +kernel
theorem dX6_readOneDeed_2 : decode cX6_readOneDeed 2 = .ok (.aload_n 0, 1) := by decide +kernel
theorem dX6_readOneDeed_3 : decode cX6_readOneDeed 3 = .ok (.getfield 100, 3) := by decide +kernel
theorem dX6_readOneDeed_6 : decode cX6_readOneDeed 6 = .ok (.iconst 1, 1) := by decide +kernel
theorem dX6_readOneDeed_7 : decode cX6_readOneDeed 7 = .ok (.isub, 1) := by decide +kernel
theorem dX6_readOneDeed_8 : decode cX6_readOneDeed 8 = .ok (.invokevirtual 93, 3) := by decide +kernel
theorem dX6_readOneDeed_11 : decode cX6_readOneDeed 11 = .ok (.istore_n 1, 1) := by decide +kernel
theorem dX6_readOneDeed_12 : decode cX6_readOneDeed 12 = .ok (.iload_n 1, 1) := by decide +kernel
theorem dX6_readOneDeed_13 : decode cX6_readOneDeed 13 = .ok (.bipush (-9), 2) := by decide +kernel
theorem dX6_readOneDeed_15 : decode cX6_readOneDeed 15 = .ok (.if_icmp .ne 8, 3) := by decide +kernel
theorem dX6_readOneDeed_18 : decode cX6_readOneDeed 18 = .ok (.bipush (-9), 2) := by decide +kernel
theorem dX6_readOneDeed_20 : decode cX6_readOneDeed 20 = .ok (.goto 10, 3) := by decide +kernel
theorem dX6_readOneDeed_23 : decode cX6_readOneDeed 23 = .ok (.aload_n 0, 1) := by decide +kernel
theorem dX6_readOneDeed_24 : decode cX6_readOneDeed 24 = .ok (.iconst 0, 1) := by decide +kernel
theorem dX6_readOneDeed_25 : decode cX6_readOneDeed 25 = .ok (.bipush 9, 2) := by decide +kernel
theorem dX6_readOneDeed_27 : decode cX6_readOneDeed 27 = .ok (.invokevirtual 93, 3) := by decide +kernel
theorem dX6_readOneDeed_30 : decode cX6_readOneDeed 30 = .ok (.istore_n 2, 1) := by decide +kernel
theorem dX6_readOneDeed_31 : decode cX6_readOneDeed 31 = .ok (.iload_n 2, 1) := by decide +kernel
theorem dX6_readOneDeed_32 : decode cX6_readOneDeed 32 = .ok (.bipush (-9), 2) := by decide +kernel
theorem dX6_readOneDeed_34 : decode cX6_readOneDeed 34 = .ok (.if_icmp .ne 8, 3) := by decide +kernel
theorem dX6_readOneDeed_37 : decode cX6_readOneDeed 37 = .ok (.bipush (-9), 2) := by decide +kernel
theorem dX6_readOneDeed_39 : decode cX6_readOneDeed 39 = .ok (.goto 10, 3) := by decide +kernel
theorem dX6_readOneDeed_42 : decode cX6_readOneDeed 42 = .ok (.aload_n 0, 1) := by decide +kernel
theorem dX6_readOneDeed_43 : decode cX6_readOneDeed 43 = .ok (.iconst 0, 1) := by decide +kernel
theorem dX6_readOneDeed_44 : decode cX6_readOneDeed 44 = .ok (.bipush 9, 2) := by decide +kernel
theorem dX6_readOneDeed_46 : decode cX6_readOneDeed 46 = .ok (.invokevirtual 93, 3) := by decide +kernel
theorem dX6_readOneDeed_49 : decode cX6_readOneDeed 49 = .ok (.istore_n 3, 1) := by decide +kernel
theorem dX6_readOneDeed_50 : decode cX6_readOneDeed 50 = .ok (.iload_n 3, 1) := by decide +kernel
theorem dX6_readOneDeed_51 : decode cX6_readOneDeed 51 = .ok (.bipush (-9), 2) := by decide +kernel
theorem dX6_readOneDeed_53 : decode cX6_readOneDeed 53 = .ok (.if_icmp .ne 5, 3) := by decide +kernel
theorem dX6_readOneDeed_56 : decode cX6_readOneDeed 56 = .ok (.iconst 0, 1) := by decide +kernel
theorem dX6_readOneDeed_57 : decode cX6_readOneDeed 57 = .ok (.ireturn, 1) := by decide +kernel
theorem dX6_readOneDeed_58 : decode cX6_readOneDeed 58 = .ok (.aload_n 0, 1) := by decide +kernel
theorem dX6_readOneDeed_59 : decode cX6_readOneDeed 59 = .ok (.getfield 37, 3) := by decide +kernel
theorem dX6_readOneDeed_62 : decode cX6_readOneDeed 62 = .ok (.iconst 3, 1) := by decide +kernel
theorem dX6_readOneDeed_63 : decode cX6_readOneDeed 63 = .ok (.aload_n 0, 1) := by decide +kernel
theorem dX6_readOneDeed_64 : decode cX6_readOneDeed 64 = .ok (.getfield 103, 3) := by decide +kernel
theorem dX6_readOneDeed_67 : decode cX6_readOneDeed 67 = .ok (.imul, 1) := by decide +kernel
theorem dX6_readOneDeed_68 : decode cX6_readOneDeed 68 = .ok (.iload_n 1, 1) := by decide +kernel
theorem dX6_readOneDeed_69 : decode cX6_readOneDeed 69 = .ok (.iastore, 1) := by decide +kernel
theorem dX6_readOneDeed_70 : decode cX6_readOneDeed 70 = .ok (.aload_n 0, 1) := by decide +kernel
theorem dX6_readOneDeed_71 : decode cX6_readOneDeed 71 = .ok (.getfield 37, 3) := by decide +kernel
theorem dX6_readOneDeed_74 : decode cX6_readOneDeed 74 = .ok (.iconst 3, 1) := by decide +kernel
theorem dX6_readOneDeed_75 : decode cX6_readOneDeed 75 = .ok (.aload_n 0, 1) := by decide +kernel
theorem dX6_readOneDeed_76 : decode cX6_readOneDeed 76 = .ok (.getfield 103, 3) := by decide +kernel
theorem dX6_readOneDeed_79 : decode cX6_readOneDeed 79 = .ok (.imul, 1) := by decide +kernel
theorem dX6_readOneDeed_80 : decode cX6_readOneDeed 80 = .ok (.iconst 1, 1) := by decide +kernel
theorem dX6_readOneDeed_81 : decode cX6_readOneDeed 81 = .ok (.iadd, 1) := by decide +kernel
theorem dX6_readOneDeed_82 : decode cX6_readOneDeed 82 = .ok (.iload_n 2, 1) := by decide +kernel
theorem dX6_readOneDeed_83 : decode cX6_readOneDeed 83 = .ok (.iastore, 1) := by decide +kernel
theorem dX6_readOneDeed_84 : decode cX6_readOneDeed 84 = .ok (.aload_n 0, 1) := by decide +kernel
theorem dX6_readOneDeed_85 : decode cX6_readOneDeed 85 = .ok (.getfield 37, 3) := by decide +kernel
theorem dX6_readOneDeed_88 : decode cX6_readOneDeed 88 = .ok (.iconst 3, 1) := by decide +kernel
theorem dX6_readOneDeed_89 : decode cX6_readOneDeed 89 = .ok (.aload_n 0, 1) := by decide +kernel
theorem dX6_readOneDeed_90 : decode cX6_readOneDeed 90 = .ok (.getfield 103, 3) := by decide +kernel
theorem dX6_readOneDeed_93 : decode cX6_readOneDeed 93 = .ok (.imul, 1) := by decide +kernel
theorem dX6_readOneDeed_94 : decode cX6_readOneDeed 94 = .ok (.iconst 2, 1) := by decide +kernel
theorem dX6_readOneDeed_95 : decode cX6_readOneDeed 95 = .ok (.iadd, 1) := by decide +kernel
theorem dX6_readOneDeed_96 : decode cX6_readOneDeed 96 = .ok (.iload_n 3, 1) := by decide +kernel
theorem dX6_readOneDeed_97 : decode cX6_readOneDeed 97 = .ok (.iastore, 1) := by decide +kernel
theorem dX6_readOneDeed_98 : decode cX6_readOneDeed 98 = .ok (.aload_n 0, 1) := by decide +kernel
theorem dX6_readOneDeed_99 : decode cX6_readOneDeed 99 = .ok (.dup, 1) := by decide +kernel
theorem dX6_readOneDeed_100 : decode cX6_readOneDeed 100 = .ok (.getfield 103, 3) := by decide +kernel
theorem dX6_readOneDeed_103 : decode cX6_readOneDeed 103 = .ok (.iconst 1, 1) := by decide +kernel
theorem dX6_readOneDeed_104 : decode cX6_readOneDeed 104 = .ok (.iadd, 1) := by decide +kernel
theorem dX6_readOneDeed_105 : decode cX6_readOneDeed 105 = .ok (.putfield 103, 3) := by decide +kernel
theorem dX6_readOneDeed_108 : decode cX6_readOneDeed 108 = .ok (.iconst 1, 1) := by decide +kernel
theorem dX6_readOneDeed_109 : decode cX6_readOneDeed 109 = .ok (.ireturn, 1) := by decide +kernel
theorem dX6_readThing_0 : decode cX6_readThing 0 = .ok (.aload_n 0, 1) := by decide +kernel
theorem dX6_readThing_1 : decode cX6_readThing 1 = .ok (.getfield 7, 3) := by decide +kernel
theorem dX6_readThing_4 : decode cX6_readThing 4 = .ok (.aload_n 0, 1) := by decide +kernel
theorem dX6_readThing_5 : decode cX6_readThing 5 = .ok (.getfield 90, 3) := by decide +kernel
theorem dX6_readThing_8 : decode cX6_readThing 8 = .ok (.iaload, 1) := by decide +kernel
theorem dX6_readThing_9 : decode cX6_readThing 9 = .ok (.istore_n 1, 1) := by decide +kernel
theorem dX6_readThing_10 : decode cX6_readThing 10 = .ok (.aload_n 0, 1) := by decide +kernel
theorem dX6_readThing_11 : decode cX6_readThing 11 = .ok (.dup, 1) := by decide +kernel
theorem dX6_readThing_12 : decode cX6_readThing 12 = .ok (.getfield 90, 3) := by decide +kernel
theorem dX6_readThing_15 : decode cX6_readThing 15 = .ok (.iconst 1, 1) := by decide +kernel
theorem dX6_readThing_16 : decode cX6_readThing 16 = .ok (.iadd, 1) := by decide +kernel
theorem dX6_readThing_17 : decode cX6_readThing 17 = .ok (.putfield 90, 3) := by decide +kernel
theorem dX6_readThing_20 : decode cX6_readThing 20 = .ok (.iload_n 1, 1) := by decide +kernel
theorem dX6_readThing_21 : decode cX6_readThing 21 = .ok (.bipush 80, 2) := by decide +kernel
theorem dX6_readThing_23 : decode cX6_readThing 23 = .ok (.if_icmp .ne 16, 3) := by decide +kernel
theorem dX6_readThing_26 : decode cX6_readThing 26 = .ok (.aload_n 0, 1) := by decide +kernel
theorem dX6_readThing_27 : decode cX6_readThing 27 = .ok (.getfield 97, 3) := by decide +kernel
theorem dX6_readThing_30 : decode cX6_readThing 30 = .ok (.iconst 3, 1) := by decide +kernel
theorem dX6_readThing_31 : decode cX6_readThing 31 = .ok (.if_icmp .ge 8, 3) := by decide +kernel
theorem dX6_readThing_34 : decode cX6_readThing 34 = .ok (.aload_n 0, 1) := by decide +kernel
theorem dX6_readThing_35 : decode cX6_readThing 35 = .ok (.invokevirtual 106, 3) := by decide +kernel
theorem dX6_readThing_38 : decode cX6_readThing 38 = .ok (.ireturn, 1) := by decide +kernel
theorem dX6_readThing_39 : decode cX6_readThing 39 = .ok (.iload_n 1, 1) := by decide +kernel
theorem dX6_readThing_40 : decode cX6_readThing 40 = .ok (.bipush 81, 2) := by decide +kernel
theorem dX6_readThing_42 : decode cX6_readThing 42 = .ok (.if_icmp .ne 23, 3) := by decide +kernel
theorem dX6_readThing_45 : decode cX6_readThing 45 = .ok (.aload_n 0, 1) := by decide +kernel
theorem dX6_readThing_46 : decode cX6_readThing 46 = .ok (.getfield 100, 3) := by decide +kernel
theorem dX6_readThing_49 : decode cX6_readThing 49 = .ok (.iconst 5, 1) := by decide +kernel
theorem dX6_readThing_50 : decode cX6_readThing 50 = .ok (.if_icmp .ge 15, 3) := by decide +kernel
theorem dX6_readThing_53 : decode cX6_readThing 53 = .ok (.aload_n 0, 1) := by decide +kernel
theorem dX6_readThing_54 : decode cX6_readThing 54 = .ok (.getfield 97, 3) := by decide +kernel
theorem dX6_readThing_57 : decode cX6_readThing 57 = .ok (.ifCond .le 8, 3) := by decide +kernel
theorem dX6_readThing_60 : decode cX6_readThing 60 = .ok (.aload_n 0, 1) := by decide +kernel
theorem dX6_readThing_61 : decode cX6_readThing 61 = .ok (.invokevirtual 110, 3) := by decide +kernel
theorem dX6_readThing_64 : decode cX6_readThing 64 = .ok (.ireturn, 1) := by decide +kernel
theorem dX6_readThing_65 : decode cX6_readThing 65 = .ok (.iload_n 1, 1) := by decide +kernel
theorem dX6_readThing_66 : decode cX6_readThing 66 = .ok (.bipush 68, 2) := by decide +kernel
theorem dX6_readThing_68 : decode cX6_readThing 68 = .ok (.if_icmp .ne 23, 3) := by decide +kernel
theorem dX6_readThing_71 : decode cX6_readThing 71 = .ok (.aload_n 0, 1) := by decide +kernel
theorem dX6_readThing_72 : decode cX6_readThing 72 = .ok (.getfield 103, 3) := by decide +kernel
theorem dX6_readThing_75 : decode cX6_readThing 75 = .ok (.iconst 5, 1) := by decide +kernel
theorem dX6_readThing_76 : decode cX6_readThing 76 = .ok (.if_icmp .ge 15, 3) := by decide +kernel
theorem dX6_readThing_79 : decode cX6_readThing 79 = .ok (.aload_n 0, 1) := by decide +kernel
theorem dX6_readThing_80 : decode cX6_readThing 80 = .ok (.getfield 100, 3) := by decide +kernel
theorem dX6_readThing_83 : decode cX6_readThing 83 = .ok (.ifCond .le 8, 3) := by decide +kernel
theorem dX6_readThing_86 : decode cX6_readThing 86 = .ok (.aload_n 0, 1) := by decide +kernel
theorem dX6_readThing_87 : decode cX6_readThing 87 = .ok (.invokevirtual 113, 3) := by decide +kernel
theorem dX6_readThing_90 : decode cX6_readThing 90 = .ok (.ireturn, 1) := by decide +kernel
theorem dX6_readThing_91 : decode cX6_readThing 91 = .ok (.aload_n 0, 1) := by decide +kernel
theorem dX6_readThing_92 : decode cX6_readThing 92 = .ok (.dup, 1) := by decide +kernel
theorem dX6_readThing_93 : decode cX6_readThing 93 = .ok (.getfield 90, 3) := by decide +kernel
theorem dX6_readThing_96 : decode cX6_readThing 96 = .ok (.iconst 1, 1) := by decide +kernel
theorem dX6_readThing_97 : decode cX6_readThing 97 = .ok (.isub, 1) := by decide +kernel
theorem dX6_readThing_98 : decode cX6_readThing 98 = .ok (.putfield 90, 3) := by decide +kernel
theorem dX6_readThing_101 : decode cX6_readThing 101 = .ok (.iconst 0, 1) := by decide +kernel
theorem dX6_readThing_102 : decode cX6_readThing 102 = .ok (.ireturn, 1) := by decide +kernel
theorem dX6_readShop_0 : decode cX6_readShop 0 = .ok (.aload_n 0, 1) := by decide +kernel
theorem dX6_readShop_1 : decode cX6_readShop 1 = .ok (.iconst 0, 1) := by decide +kernel
theorem dX6_readShop_2 : decode cX6_readShop 2 = .ok (.putfield 90, 3) := by decide +kernel
theorem dX6_readShop_5 : decode cX6_readShop 5 = .ok (.aload_n 0, 1) := by decide +kernel
theorem dX6_readShop_6 : decode cX6_readShop 6 = .ok (.iconst 0, 1) := by decide +kernel
theorem dX6_readShop_7 : decode cX6_readShop 7 = .ok (.putfield 97, 3) := by decide +kernel
theorem dX6_readShop_10 : decode cX6_readShop 10 = .ok (.aload_n 0, 1) := by decide +kernel
theorem dX6_readShop_11 : decode cX6_readShop 11 = .ok (.iconst 0, 1) := by decide +kernel
theorem dX6_readShop_12 : decode cX6_readShop 12 = .ok (.putfield 100, 3) := by decide +kernel
theorem dX6_readShop_15 : decode cX6_readShop 15 = .ok (.aload_n 0, 1) := by decide +kernel
theorem dX6_readShop_16 : decode cX6_readShop 16 = .ok (.iconst 0, 1) := by decide +kernel
theorem dX6_readShop_17 : decode cX6_readShop 17 = .ok (.putfield 103, 3) := by decide +kernel
theorem dX6_readShop_20 : decode cX6_readShop 20 = .ok (.aload_n 0, 1) := by decide +kernel
theorem dX6_readShop_21 : decode cX6_readShop 21 = .ok (.getfield 87, 3) := by decide +kernel
theorem dX6_readShop_24 : decode cX6_readShop 24 = .ok (.ifCond .eq 14, 3) := by decide +kernel
theorem dX6_readShop_27 : decode cX6_readShop 27 = .ok (.aload_n 0, 1) := by decide +kernel
theorem dX6_readShop_28 : decode cX6_readShop 28 = .ok (.getfield 7, 3) := by decide +kernel
theorem dX6_readShop_31 : decode cX6_readShop 31 = .ok (.iconst 0, 1) := by decide +kernel
theorem dX6_readShop_32 : decode cX6_readShop 32 = .ok (.iaload, 1) := by decide +kernel
theorem dX6_readShop_33 : decode cX6_readShop 33 = .ok (.bipush 66, 2) := by decide +kernel
theorem dX6_readShop_35 : decode cX6_readShop 35 = .ok (.if_icmp .eq 5, 3) := by decide +kernel
theorem dX6_readShop_38 : decode cX6_readShop 38 = .ok (.iconst 0, 1) := by decide +kernel
theorem dX6_readShop_39 : decode cX6_readShop 39 = .ok (.ireturn, 1) := by decide +kernel
theorem dX6_readShop_40 : decode cX6_readShop 40 = .ok (.aload_n 0, 1) := by decide +kernel
theorem dX6_readShop_41 : decode cX6_readShop 41 = .ok (.iconst 1, 1) := by decide +kernel
theorem dX6_readShop_42 : decode cX6_readShop 42 = .ok (.putfield 90, 3) := by decide +kernel
theorem dX6_readShop_45 : decode cX6_readShop 45 = .ok (.aload_n 0, 1) := by decide +kernel
theorem dX6_readShop_46 : decode cX6_readShop 46 = .ok (.aload_n 0, 1) := by decide +kernel
theorem dX6_readShop_47 : decode cX6_readShop 47 = .ok (.iconst 0, 1) := by decide +kernel
theorem dX6_readShop_48 : decode cX6_readShop 48 = .ok (.bipush 9, 2) := by decide +kernel
theorem dX6_readShop_50 : decode cX6_readShop 50 = .ok (.invokevirtual 93, 3) := by decide +kernel
theorem dX6_readShop_53 : decode cX6_readShop 53 = .ok (.putfield 116, 3) := by decide +kernel
theorem dX6_readShop_56 : decode cX6_readShop 56 = .ok (.aload_n 0, 1) := by decide +kernel
theorem dX6_readShop_57 : decode cX6_readShop 57 = .ok (.getfield 116, 3) := by decide +kernel
theorem dX6_readShop_60 : decode cX6_readShop 60 = .ok (.bipush (-9), 2) := by decide +kernel
theorem dX6_readShop_62 : decode cX6_readShop 62 = .ok (.if_icmp .ne 8, 3) := by decide +kernel
theorem dX6_readShop_65 : decode cX6_readShop 65 = .ok (.aload_n 0, 1) := by decide +kernel
theorem dX6_readShop_66 : decode cX6_readShop 66 = .ok (.getfield 90, 3) := by decide +kernel
theorem dX6_readShop_69 : decode cX6_readShop 69 = .ok (.ireturn, 1) := by decide +kernel
theorem dX6_readShop_70 : decode cX6_readShop 70 = .ok (.aload_n 0, 1) := by decide +kernel
theorem dX6_readShop_71 : decode cX6_readShop 71 = .ok (.getfield 90, 3) := by decide +kernel
theorem dX6_readShop_74 : decode cX6_readShop 74 = .ok (.aload_n 0, 1) := by decide +kernel
theorem dX6_readShop_75 : decode cX6_readShop 75 = .ok (.getfield 87, 3) := by decide +kernel
theorem dX6_readShop_78 : decode cX6_readShop 78 = .ok (.if_icmp .ge 15, 3) := by decide +kernel
theorem dX6_readShop_81 : decode cX6_readShop 81 = .ok (.aload_n 0, 1) := by decide +kernel
theorem dX6_readShop_82 : decode cX6_readShop 82 = .ok (.invokevirtual 119, 3) := by decide +kernel
theorem dX6_readShop_85 : decode cX6_readShop 85 = .ok (.ifCond .ne (-15), 3) := by decide +kernel
theorem dX6_readShop_88 : decode cX6_readShop 88 = .ok (.aload_n 0, 1) := by decide +kernel
theorem dX6_readShop_89 : decode cX6_readShop 89 = .ok (.getfield 90, 3) := by decide +kernel
theorem dX6_readShop_92 : decode cX6_readShop 92 = .ok (.ireturn, 1) := by decide +kernel
theorem dX6_readShop_93 : decode cX6_readShop 93 = .ok (.bipush (-9), 2) := by decide +kernel
theorem dX6_readShop_95 : decode cX6_readShop 95 = .ok (.ireturn, 1) := by decide +kernel
theorem dX6_fault_0 : decode cX6_fault 0 = .ok (.aload_n 0, 1) := by decide +kernel
theorem dX6_fault_1 : decode cX6_fault 1 = .ok (.iconst 0, 1) := by decide +kernel
theorem dX6_fault_2 : decode cX6_fault 2 = .ok (.putfield 68, 3) := by decide +kernel
theorem dX6_fault_5 : decode cX6_fault 5 = .ok (.aload_n 0, 1) := by decide +kernel
theorem dX6_fault_6 : decode cX6_fault 6 = .ok (.invokevirtual 122, 3) := by decide +kernel
theorem dX6_fault_9 : decode cX6_fault 9 = .ok (.ireturn, 1) := by decide +kernel
theorem dX6_shop_0 : decode cX6_shop 0 = .ok (.aload_n 0, 1) := by decide +kernel
theorem dX6_shop_1 : decode cX6_shop 1 = .ok (.iconst 0, 1) := by decide +kernel
theorem dX6_shop_2 : decode cX6_shop 2 = .ok (.putfield 68, 3) := by decide +kernel
theorem dX6_shop_5 : decode cX6_shop 5 = .ok (.aload_n 0, 1) := by decide +kernel
theorem dX6_shop_6 : decode cX6_shop 6 = .ok (.invokevirtual 122, 3) := by decide +kernel
theorem dX6_shop_9 : decode cX6_shop 9 = .ok (.bipush (-9), 2) := by decide +kernel
theorem dX6_shop_11 : decode cX6_shop 11 = .ok (.if_icmp .eq 6, 3) := by decide +kernel
theorem dX6_shop_14 : decode cX6_shop 14 = .ok (.bipush (-3), 2) := by decide +kernel
theorem dX6_shop_16 : decode cX6_shop 16 = .ok (.ireturn, 1) := by decide +kernel
theorem dX6_shop_17 : decode cX6_shop 17 = .ok (.aload_n 0, 1) := by decide +kernel
theorem dX6_shop_18 : decode cX6_shop 18 = .ok (.aload_n 0, 1) := by decide +kernel
theorem dX6_shop_19 : decode cX6_shop 19 = .ok (.getfield 97, 3) := by decide +kernel
theorem dX6_shop_22 : decode cX6_shop 22 = .ok (.putfield 72, 3) := by decide +kernel
theorem dX6_shop_25 : decode cX6_shop 25 = .ok (.aload_n 0, 1) := by decide +kernel
theorem dX6_shop_26 : decode cX6_shop 26 = .ok (.aload_n 0, 1) := by decide +kernel
theorem dX6_shop_27 : decode cX6_shop 27 = .ok (.getfield 100, 3) := by decide +kernel
theorem dX6_shop_30 : decode cX6_shop 30 = .ok (.putfield 79, 3) := by decide +kernel
theorem dX6_shop_33 : decode cX6_shop 33 = .ok (.aload_n 0, 1) := by decide +kernel
theorem dX6_shop_34 : decode cX6_shop 34 = .ok (.aload_n 0, 1) := by decide +kernel
theorem dX6_shop_35 : decode cX6_shop 35 = .ok (.getfield 103, 3) := by decide +kernel
theorem dX6_shop_38 : decode cX6_shop 38 = .ok (.putfield 82, 3) := by decide +kernel
theorem dX6_shop_41 : decode cX6_shop 41 = .ok (.iconst 0, 1) := by decide +kernel
theorem dX6_shop_42 : decode cX6_shop 42 = .ok (.istore_n 1, 1) := by decide +kernel
theorem dX6_shop_43 : decode cX6_shop 43 = .ok (.iload_n 1, 1) := by decide +kernel
theorem dX6_shop_44 : decode cX6_shop 44 = .ok (.bipush 20, 2) := by decide +kernel
theorem dX6_shop_46 : decode cX6_shop 46 = .ok (.if_icmp .ge 16, 3) := by decide +kernel
theorem dX6_shop_49 : decode cX6_shop 49 = .ok (.aload_n 0, 1) := by decide +kernel
theorem dX6_shop_50 : decode cX6_shop 50 = .ok (.getfield 40, 3) := by decide +kernel
theorem dX6_shop_53 : decode cX6_shop 53 = .ok (.iload_n 1, 1) := by decide +kernel
theorem dX6_shop_54 : decode cX6_shop 54 = .ok (.iconst 0, 1) := by decide +kernel
theorem dX6_shop_55 : decode cX6_shop 55 = .ok (.iastore, 1) := by decide +kernel
theorem dX6_shop_56 : decode cX6_shop 56 = .ok (.iinc 1 1, 3) := by decide +kernel
theorem dX6_shop_59 : decode cX6_shop 59 = .ok (.goto (-16), 3) := by decide +kernel
theorem dX6_shop_62 : decode cX6_shop 62 = .ok (.aload_n 0, 1) := by decide +kernel
theorem dX6_shop_63 : decode cX6_shop 63 = .ok (.getfield 40, 3) := by decide +kernel
theorem dX6_shop_66 : decode cX6_shop 66 = .ok (.iconst 0, 1) := by decide +kernel
