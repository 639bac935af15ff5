theorem dX6_share_197 : decode cX6_share 197 = .ok (.iload_n 2, 1) := by decide +kernel
theorem dX6_share_198 : decode cX6_share 198 = .ok (.invokestatic 236, 3) := by decide +kernel
theorem dX6_share_201 : decode cX6_share 201 = .ok (.ireturn, 1) := by decide +kernel
theorem dX6_ask_0 : decode cX6_ask 0 = .ok (.aload_n 0, 1) := by decide +kernel
theorem dX6_ask_1 : decode cX6_ask 1 = .ok (.iconst 0, 1) := by decide +kernel
theorem dX6_ask_2 : decode cX6_ask 2 = .ok (.putfield 68, 3) := by decide +kernel
theorem dX6_ask_5 : decode cX6_ask 5 = .ok (.iload_n 1, 1) := by decide +kernel
theorem dX6_ask_6 : decode cX6_ask 6 = .ok (.i2l, 1) := by decide +kernel
theorem dX6_ask_7 : decode cX6_ask 7 = .ok (.lconst 0, 1) := by decide +kernel
theorem dX6_ask_8 : decode cX6_ask 8 = .ok (.ldc2_w 240, 3) := by decide +kernel
theorem dX6_ask_11 : decode cX6_ask 11 = .ok (.invokestatic 75, 3) := by decide +kernel
theorem dX6_ask_14 : decode cX6_ask 14 = .ok (.ifCond .eq 15, 3) := by decide +kernel
theorem dX6_ask_17 : decode cX6_ask 17 = .ok (.iload_n 2, 1) := by decide +kernel
theorem dX6_ask_18 : decode cX6_ask 18 = .ok (.i2l, 1) := by decide +kernel
theorem dX6_ask_19 : decode cX6_ask 19 = .ok (.lconst 0, 1) := by decide +kernel
theorem dX6_ask_20 : decode cX6_ask 20 = .ok (.ldc2_w 242, 3) := by decide +kernel
theorem dX6_ask_23 : decode cX6_ask 23 = .ok (.invokestatic 75, 3) := by decide +kernel
theorem dX6_ask_26 : decode cX6_ask 26 = .ok (.ifCond .ne 6, 3) := by decide +kernel
theorem dX6_ask_29 : decode cX6_ask 29 = .ok (.bipush (-2), 2) := by decide +kernel
theorem dX6_ask_31 : decode cX6_ask 31 = .ok (.ireturn, 1) := by decide +kernel
theorem dX6_ask_32 : decode cX6_ask 32 = .ok (.aload_n 0, 1) := by decide +kernel
theorem dX6_ask_33 : decode cX6_ask 33 = .ok (.getfield 144, 3) := by decide +kernel
theorem dX6_ask_36 : decode cX6_ask 36 = .ok (.bipush 6, 2) := by decide +kernel
theorem dX6_ask_38 : decode cX6_ask 38 = .ok (.if_icmp .ne 6, 3) := by decide +kernel
theorem dX6_ask_41 : decode cX6_ask 41 = .ok (.bipush (-4), 2) := by decide +kernel
theorem dX6_ask_43 : decode cX6_ask 43 = .ok (.ireturn, 1) := by decide +kernel
theorem dX6_ask_44 : decode cX6_ask 44 = .ok (.aload_n 0, 1) := by decide +kernel
theorem dX6_ask_45 : decode cX6_ask 45 = .ok (.getfield 56, 3) := by decide +kernel
theorem dX6_ask_48 : decode cX6_ask 48 = .ok (.aload_n 0, 1) := by decide +kernel
theorem dX6_ask_49 : decode cX6_ask 49 = .ok (.getfield 144, 3) := by decide +kernel
theorem dX6_ask_52 : decode cX6_ask 52 = .ok (.iload_n 1, 1) := by decide +kernel
theorem dX6_ask_53 : decode cX6_ask 53 = .ok (.iastore, 1) := by decide +kernel
theorem dX6_ask_54 : decode cX6_ask 54 = .ok (.aload_n 0, 1) := by decide +kernel
theorem dX6_ask_55 : decode cX6_ask 55 = .ok (.getfield 59, 3) := by decide +kernel
theorem dX6_ask_58 : decode cX6_ask 58 = .ok (.aload_n 0, 1) := by decide +kernel
theorem dX6_ask_59 : decode cX6_ask 59 = .ok (.getfield 144, 3) := by decide +kernel
theorem dX6_ask_62 : decode cX6_ask 62 = .ok (.iload_n 2, 1) := by decide +kernel
theorem dX6_ask_63 : decode cX6_ask 63 = .ok (.iastore, 1) := by decide +kernel
theorem dX6_ask_64 : decode cX6_ask 64 = .ok (.aload_n 0, 1) := by decide +kernel
theorem dX6_ask_65 : decode cX6_ask 65 = .ok (.dup, 1) := by decide +kernel
theorem dX6_ask_66 : decode cX6_ask 66 = .ok (.getfield 144, 3) := by decide +kernel
theorem dX6_ask_69 : decode cX6_ask 69 = .ok (.iconst 1, 1) := by decide +kernel
theorem dX6_ask_70 : decode cX6_ask 70 = .ok (.iadd, 1) := by decide +kernel
theorem dX6_ask_71 : decode cX6_ask 71 = .ok (.putfield 144, 3) := by decide +kernel
theorem dX6_ask_74 : decode cX6_ask 74 = .ok (.aload_n 0, 1) := by decide +kernel
theorem dX6_ask_75 : decode cX6_ask 75 = .ok (.getfield 144, 3) := by decide +kernel
theorem dX6_ask_78 : decode cX6_ask 78 = .ok (.ireturn, 1) := by decide +kernel
theorem dX6_unask_0 : decode cX6_unask 0 = .ok (.aload_n 0, 1) := by decide +kernel
theorem dX6_unask_1 : decode cX6_unask 1 = .ok (.iconst 0, 1) := by decide +kernel
theorem dX6_unask_2 : decode cX6_unask 2 = .ok (.putfield 68, 3) := by decide +kernel
theorem dX6_unask_5 : decode cX6_unask 5 = .ok (.aload_n 0, 1) := by decide +kernel
theorem dX6_unask_6 : decode cX6_unask 6 = .ok (.getfield 144, 3) := by decide +kernel
theorem dX6_unask_9 : decode cX6_unask 9 = .ok (.istore_n 1, 1) := by decide +kernel
theorem dX6_unask_10 : decode cX6_unask 10 = .ok (.aload_n 0, 1) := by decide +kernel
theorem dX6_unask_11 : decode cX6_unask 11 = .ok (.iconst 0, 1) := by decide +kernel
theorem dX6_unask_12 : decode cX6_unask 12 = .ok (.putfield 144, 3) := by decide +kernel
theorem dX6_unask_15 : decode cX6_unask 15 = .ok (.iload_n 1, 1) := by decide +kernel
theorem dX6_unask_16 : decode cX6_unask 16 = .ok (.ireturn, 1) := by decide +kernel
theorem dX6_tickets_0 : decode cX6_tickets 0 = .ok (.aload_n 0, 1) := by decide +kernel
theorem dX6_tickets_1 : decode cX6_tickets 1 = .ok (.iconst 0, 1) := by decide +kernel
theorem dX6_tickets_2 : decode cX6_tickets 2 = .ok (.putfield 68, 3) := by decide +kernel
theorem dX6_tickets_5 : decode cX6_tickets 5 = .ok (.iload_n 1, 1) := by decide +kernel
theorem dX6_tickets_6 : decode cX6_tickets 6 = .ok (.i2l, 1) := by decide +kernel
theorem dX6_tickets_7 : decode cX6_tickets 7 = .ok (.lconst 0, 1) := by decide +kernel
theorem dX6_tickets_8 : decode cX6_tickets 8 = .ok (.lconst 1, 1) := by decide +kernel
theorem dX6_tickets_9 : decode cX6_tickets 9 = .ok (.invokestatic 75, 3) := by decide +kernel
theorem dX6_tickets_12 : decode cX6_tickets 12 = .ok (.ifCond .ne 6, 3) := by decide +kernel
theorem dX6_tickets_15 : decode cX6_tickets 15 = .ok (.bipush (-2), 2) := by decide +kernel
theorem dX6_tickets_17 : decode cX6_tickets 17 = .ok (.ireturn, 1) := by decide +kernel
theorem dX6_tickets_18 : decode cX6_tickets 18 = .ok (.aload_n 0, 1) := by decide +kernel
theorem dX6_tickets_19 : decode cX6_tickets 19 = .ok (.iconst 0, 1) := by decide +kernel
theorem dX6_tickets_20 : decode cX6_tickets 20 = .ok (.putfield 244, 3) := by decide +kernel
theorem dX6_tickets_23 : decode cX6_tickets 23 = .ok (.aload_n 0, 1) := by decide +kernel
theorem dX6_tickets_24 : decode cX6_tickets 24 = .ok (.bipush (-9), 2) := by decide +kernel
theorem dX6_tickets_26 : decode cX6_tickets 26 = .ok (.putfield 247, 3) := by decide +kernel
theorem dX6_tickets_29 : decode cX6_tickets 29 = .ok (.iconst 0, 1) := by decide +kernel
theorem dX6_tickets_30 : decode cX6_tickets 30 = .ok (.istore_n 2, 1) := by decide +kernel
theorem dX6_tickets_31 : decode cX6_tickets 31 = .ok (.iload_n 2, 1) := by decide +kernel
theorem dX6_tickets_32 : decode cX6_tickets 32 = .ok (.iconst 4, 1) := by decide +kernel
theorem dX6_tickets_33 : decode cX6_tickets 33 = .ok (.if_icmp .ge 133, 3) := by decide +kernel
theorem dX6_tickets_36 : decode cX6_tickets 36 = .ok (.iconst 1, 1) := by decide +kernel
theorem dX6_tickets_37 : decode cX6_tickets 37 = .ok (.istore_n 3, 1) := by decide +kernel
theorem dX6_tickets_38 : decode cX6_tickets 38 = .ok (.iload_n 3, 1) := by decide +kernel
theorem dX6_tickets_39 : decode cX6_tickets 39 = .ok (.bipush 9, 2) := by decide +kernel
theorem dX6_tickets_41 : decode cX6_tickets 41 = .ok (.if_icmp .gt 119, 3) := by decide +kernel
theorem dX6_tickets_44 : decode cX6_tickets 44 = .ok (.iconst 1, 1) := by decide +kernel
theorem dX6_tickets_45 : decode cX6_tickets 45 = .ok (.istore 4, 2) := by decide +kernel
theorem dX6_tickets_47 : decode cX6_tickets 47 = .ok (.iconst 0, 1) := by decide +kernel
theorem dX6_tickets_48 : decode cX6_tickets 48 = .ok (.istore 5, 2) := by decide +kernel
theorem dX6_tickets_50 : decode cX6_tickets 50 = .ok (.iload 5, 2) := by decide +kernel
theorem dX6_tickets_52 : decode cX6_tickets 52 = .ok (.aload_n 0, 1) := by decide +kernel
theorem dX6_tickets_53 : decode cX6_tickets 53 = .ok (.getfield 144, 3) := by decide +kernel
theorem dX6_tickets_56 : decode cX6_tickets 56 = .ok (.if_icmp .ge 50, 3) := by decide +kernel
theorem dX6_tickets_59 : decode cX6_tickets 59 = .ok (.iload 4, 2) := by decide +kernel
theorem dX6_tickets_61 : decode cX6_tickets 61 = .ok (.ifCond .eq 36, 3) := by decide +kernel
theorem dX6_tickets_64 : decode cX6_tickets 64 = .ok (.iload_n 3, 1) := by decide +kernel
theorem dX6_tickets_65 : decode cX6_tickets 65 = .ok (.iload_n 2, 1) := by decide +kernel
theorem dX6_tickets_66 : decode cX6_tickets 66 = .ok (.aload_n 0, 1) := by decide +kernel
theorem dX6_tickets_67 : decode cX6_tickets 67 = .ok (.getfield 56, 3) := by decide +kernel
theorem dX6_tickets_70 : decode cX6_tickets 70 = .ok (.iload 5, 2) := by decide +kernel
theorem dX6_tickets_72 : decode cX6_tickets 72 = .ok (.iaload, 1) := by decide +kernel
theorem dX6_tickets_73 : decode cX6_tickets 73 = .ok (.aload_n 0, 1) := by decide +kernel
theorem dX6_tickets_74 : decode cX6_tickets 74 = .ok (.getfield 56, 3) := by decide +kernel
theorem dX6_tickets_77 : decode cX6_tickets 77 = .ok (.iload 5, 2) := by decide +kernel
theorem dX6_tickets_79 : decode cX6_tickets 79 = .ok (.iaload, 1) := by decide +kernel
theorem dX6_tickets_80 : decode cX6_tickets 80 = .ok (.invokestatic 129, 3) := by decide +kernel
theorem dX6_tickets_83 : decode cX6_tickets 83 = .ok (.aload_n 0, 1) := by decide +kernel
theorem dX6_tickets_84 : decode cX6_tickets 84 = .ok (.getfield 59, 3) := by decide +kernel
theorem dX6_tickets_87 : decode cX6_tickets 87 = .ok (.iload 5, 2) := by decide +kernel
theorem dX6_tickets_89 : decode cX6_tickets 89 = .ok (.iaload, 1) := by decide +kernel
theorem dX6_tickets_90 : decode cX6_tickets 90 = .ok (.if_icmp .ne 7, 3) := by decide +kernel
theorem dX6_tickets_93 : decode cX6_tickets 93 = .ok (.iconst 1, 1) := by decide +kernel
theorem dX6_tickets_94 : decode cX6_tickets 94 = .ok (.goto 4, 3) := by decide +kernel
theorem dX6_tickets_97 : decode cX6_tickets 97 = .ok (.iconst 0, 1) := by decide +kernel
theorem dX6_tickets_98 : decode cX6_tickets 98 = .ok (.istore 4, 2) := by decide +kernel
theorem dX6_tickets_100 : decode cX6_tickets 100 = .ok (.iinc 5 1, 3) := by decide +kernel
theorem dX6_tickets_103 : decode cX6_tickets 103 = .ok (.goto (-53), 3) := by decide +kernel
theorem dX6_tickets_106 : decode cX6_tickets 106 = .ok (.aload_n 0, 1) := by decide +kernel
theorem dX6_tickets_107 : decode cX6_tickets 107 = .ok (.iload 4, 2) := by decide +kernel
theorem dX6_tickets_109 : decode cX6_tickets 109 = .ok (.ifCond .eq 19, 3) := by decide +kernel
theorem dX6_tickets_112 : decode cX6_tickets 112 = .ok (.aload_n 0, 1) := by decide +kernel
theorem dX6_tickets_113 : decode cX6_tickets 113 = .ok (.getfield 244, 3) := by decide +kernel
theorem dX6_tickets_116 : decode cX6_tickets 116 = .ok (.ifCond .ne 12, 3) := by decide +kernel
theorem dX6_tickets_119 : decode cX6_tickets 119 = .ok (.bipush 10, 2) := by decide +kernel
theorem dX6_tickets_121 : decode cX6_tickets 121 = .ok (.iload_n 2, 1) := by decide +kernel
theorem dX6_tickets_122 : decode cX6_tickets 122 = .ok (.imul, 1) := by decide +kernel
theorem dX6_tickets_123 : decode cX6_tickets 123 = .ok (.iload_n 3, 1) := by decide +kernel
theorem dX6_tickets_124 : decode cX6_tickets 124 = .ok (.iadd, 1) := by decide +kernel
theorem dX6_tickets_125 : decode cX6_tickets 125 = .ok (.goto 7, 3) := by decide +kernel
theorem dX6_tickets_128 : decode cX6_tickets 128 = .ok (.aload_n 0, 1) := by decide +kernel
theorem dX6_tickets_129 : decode cX6_tickets 129 = .ok (.getfield 247, 3) := by decide +kernel
theorem dX6_tickets_132 : decode cX6_tickets 132 = .ok (.putfield 247, 3) := by decide +kernel
theorem dX6_tickets_135 : decode cX6_tickets 135 = .ok (.aload_n 0, 1) := by decide +kernel
theorem dX6_tickets_136 : decode cX6_tickets 136 = .ok (.dup, 1) := by decide +kernel
theorem dX6_tickets_137 : decode cX6_tickets 137 = .ok (.getfield 244, 3) := by decide +kernel
theorem dX6_tickets_140 : decode cX6_tickets 140 = .ok (.iload 4, 2) := by decide +kernel
theorem dX6_tickets_142 : decode cX6_tickets 142 = .ok (.ifCond .eq 7, 3) := by decide +kernel
theorem dX6_tickets_145 : decode cX6_tickets 145 = .ok (.iconst 1, 1) := by decide +kernel
theorem dX6_tickets_146 : decode cX6_tickets 146 = .ok (.goto 4, 3) := by decide +kernel
theorem dX6_tickets_149 : decode cX6_tickets 149 = .ok (.iconst 0, 1) := by decide +kernel
theorem dX6_tickets_150 : decode cX6_tickets 150 = .ok (.iadd, 1) := by decide +kernel
theorem dX6_tickets_151 : decode cX6_tickets 151 = .ok (.putfield 244, 3) := by decide +kernel
theorem dX6_tickets_154 : decode cX6_tickets 154 = .ok (.iinc 3 1, 3) := by decide +kernel
theorem dX6_tickets_157 : decode cX6_tickets 157 = .ok (.goto (-119), 3) := by decide +kernel
theorem dX6_tickets_160 : decode cX6_tickets 160 = .ok (.iinc 2 1, 3) := by decide +kernel
theorem dX6_tickets_163 : decode cX6_tickets 163 = .ok (.goto (-132), 3) := by decide +kernel
theorem dX6_tickets_166 : decode cX6_tickets 166 = .ok (.iload_n 1, 1) := by decide +kernel
theorem dX6_tickets_167 : decode cX6_tickets 167 = .ok (.ifCond .ne 10, 3) := by decide +kernel
theorem dX6_tickets_170 : decode cX6_tickets 170 = .ok (.aload_n 0, 1) := by decide +kernel
theorem dX6_tickets_171 : decode cX6_tickets 171 = .ok (.getfield 244, 3) := by decide +kernel
theorem dX6_tickets_174 : decode cX6_tickets 174 = .ok (.goto 7, 3) := by decide +kernel
theorem dX6_tickets_177 : decode cX6_tickets 177 = .ok (.aload_n 0, 1) := by decide +kernel
theorem dX6_tickets_178 : decode cX6_tickets 178 = .ok (.getfield 247, 3) := by decide +kernel
theorem dX6_tickets_181 : decode cX6_tickets 181 = .ok (.ireturn, 1) := by decide +kernel
theorem dX6_goBest_0 : decode cX6_goBest 0 = .ok (.bipush (-9), 2) := by decide +kernel
theorem dX6_goBest_2 : decode cX6_goBest 2 = .ok (.istore_n 2, 1) := by decide +kernel
theorem dX6_goBest_3 : decode cX6_goBest 3 = .ok (.aload_n 0, 1) := by decide +kernel
theorem dX6_goBest_4 : decode cX6_goBest 4 = .ok (.getfield 79, 3) := by decide +kernel
theorem dX6_goBest_7 : decode cX6_goBest 7 = .ok (.iconst 1, 1) := by decide +kernel
theorem dX6_goBest_8 : decode cX6_goBest 8 = .ok (.isub, 1) := by decide +kernel
theorem dX6_goBest_9 : decode cX6_goBest 9 = .ok (.istore_n 3, 1) := by decide +kernel
theorem dX6_goBest_10 : decode cX6_goBest 10 = .ok (.iload_n 3, 1) := by decide +kernel
theorem dX6_goBest_11 : decode cX6_goBest 11 = .ok (.ifCond .lt 69, 3) := by decide +kernel
theorem dX6_goBest_14 : decode cX6_goBest 14 = .ok (.aload_n 0, 1) := by decide +kernel
theorem dX6_goBest_15 : decode cX6_goBest 15 = .ok (.getfield 13, 3) := by decide +kernel
theorem dX6_goBest_18 : decode cX6_goBest 18 = .ok (.iload_n 3, 1) := by decide +kernel
theorem dX6_goBest_19 : decode cX6_goBest 19 = .ok (.iaload, 1) := by decide +kernel
theorem dX6_goBest_20 : decode cX6_goBest 20 = .ok (.iload_n 1, 1) := by decide +kernel
theorem dX6_goBest_21 : decode cX6_goBest 21 = .ok (.if_icmp .ne 18, 3) := by decide +kernel
theorem dX6_goBest_24 : decode cX6_goBest 24 = .ok (.aload_n 0, 1) := by decide +kernel
theorem dX6_goBest_25 : decode cX6_goBest 25 = .ok (.getfield 43, 3) := by decide +kernel
theorem dX6_goBest_28 : decode cX6_goBest 28 = .ok (.iconst 4, 1) := by decide +kernel
theorem dX6_goBest_29 : decode cX6_goBest 29 = .ok (.iload_n 3, 1) := by decide +kernel
theorem dX6_goBest_30 : decode cX6_goBest 30 = .ok (.iadd, 1) := by decide +kernel
theorem dX6_goBest_31 : decode cX6_goBest 31 = .ok (.iaload, 1) := by decide +kernel
theorem dX6_goBest_32 : decode cX6_goBest 32 = .ok (.ifCond .ne 7, 3) := by decide +kernel
theorem dX6_goBest_35 : decode cX6_goBest 35 = .ok (.iconst 1, 1) := by decide +kernel
theorem dX6_goBest_36 : decode cX6_goBest 36 = .ok (.goto 4, 3) := by decide +kernel
theorem dX6_goBest_39 : decode cX6_goBest 39 = .ok (.iconst 0, 1) := by decide +kernel
theorem dX6_goBest_40 : decode cX6_goBest 40 = .ok (.istore 4, 2) := by decide +kernel
theorem dX6_goBest_42 : decode cX6_goBest 42 = .ok (.iload 4, 2) := by decide +kernel
theorem dX6_goBest_44 : decode cX6_goBest 44 = .ok (.ifCond .eq 28, 3) := by decide +kernel
theorem dX6_goBest_47 : decode cX6_goBest 47 = .ok (.iload_n 2, 1) := by decide +kernel
theorem dX6_goBest_48 : decode cX6_goBest 48 = .ok (.bipush (-9), 2) := by decide +kernel
theorem dX6_goBest_50 : decode cX6_goBest 50 = .ok (.if_icmp .eq 18, 3) := by decide +kernel
theorem dX6_goBest_53 : decode cX6_goBest 53 = .ok (.aload_n 0, 1) := by decide +kernel
theorem dX6_goBest_54 : decode cX6_goBest 54 = .ok (.getfield 16, 3) := by decide +kernel
theorem dX6_goBest_57 : decode cX6_goBest 57 = .ok (.iload_n 3, 1) := by decide +kernel
theorem dX6_goBest_58 : decode cX6_goBest 58 = .ok (.iaload, 1) := by decide +kernel
theorem dX6_goBest_59 : decode cX6_goBest 59 = .ok (.aload_n 0, 1) := by decide +kernel
theorem dX6_goBest_60 : decode cX6_goBest 60 = .ok (.getfield 16, 3) := by decide +kernel
theorem dX6_goBest_63 : decode cX6_goBest 63 = .ok (.iload_n 2, 1) := by decide +kernel
theorem dX6_goBest_64 : decode cX6_goBest 64 = .ok (.iaload, 1) := by decide +kernel
theorem dX6_goBest_65 : decode cX6_goBest 65 = .ok (.if_icmp .lt 7, 3) := by decide +kernel
theorem dX6_goBest_68 : decode cX6_goBest 68 = .ok (.iload_n 3, 1) := by decide +kernel
theorem dX6_goBest_69 : decode cX6_goBest 69 = .ok (.goto 4, 3) := by decide +kernel
theorem dX6_goBest_72 : decode cX6_goBest 72 = .ok (.iload_n 2, 1) := by decide +kernel
theorem dX6_goBest_73 : decode cX6_goBest 73 = .ok (.istore_n 2, 1) := by decide +kernel
theorem dX6_goBest_74 : decode cX6_goBest 74 = .ok (.iinc 3 (-1), 3) := by decide +kernel
theorem dX6_goBest_77 : decode cX6_goBest 77 = .ok (.goto (-67), 3) := by decide +kernel
theorem dX6_goBest_80 : decode cX6_goBest 80 = .ok (.iload_n 2, 1) := by decide +kernel
theorem dX6_goBest_81 : decode cX6_goBest 81 = .ok (.bipush (-9), 2) := by decide +kernel
theorem dX6_goBest_83 : decode cX6_goBest 83 = .ok (.if_icmp .eq 24, 3) := by decide +kernel
theorem dX6_goBest_86 : decode cX6_goBest 86 = .ok (.aload_n 0, 1) := by decide +kernel
theorem dX6_goBest_87 : decode cX6_goBest 87 = .ok (.aload_n 0, 1) := by decide +kernel
theorem dX6_goBest_88 : decode cX6_goBest 88 = .ok (.getfield 43, 3) := by decide +kernel
theorem dX6_goBest_91 : decode cX6_goBest 91 = .ok (.iload_n 2, 1) := by decide +kernel
theorem dX6_goBest_92 : decode cX6_goBest 92 = .ok (.invokevirtual 170, 3) := by decide +kernel
theorem dX6_goBest_95 : decode cX6_goBest 95 = .ok (.ifCond .eq 12, 3) := by decide +kernel
theorem dX6_goBest_98 : decode cX6_goBest 98 = .ok (.aload_n 0, 1) := by decide +kernel
theorem dX6_goBest_99 : decode cX6_goBest 99 = .ok (.aload_n 0, 1) := by decide +kernel
theorem dX6_goBest_100 : decode cX6_goBest 100 = .ok (.getfield 43, 3) := by decide +kernel
theorem dX6_goBest_103 : decode cX6_goBest 103 = .ok (.iload_n 2, 1) := by decide +kernel
theorem dX6_goBest_104 : decode cX6_goBest 104 = .ok (.invokevirtual 174, 3) := by decide +kernel
theorem dX6_goBest_107 : decode cX6_goBest 107 = .ok (.return_, 1) := by decide +kernel
theorem dX6_rests_0 : decode cX6_rests 0 = .ok (.aload_n 0, 1) := by decide +kernel
theorem dX6_rests_1 : decode cX6_rests 1 = .ok (.iconst 0, 1) := by decide +kernel
theorem dX6_rests_2 : decode cX6_rests 2 = .ok (.putfield 68, 3) := by decide +kernel
theorem dX6_rests_5 : decode cX6_rests 5 = .ok (.aload_n 0, 1) := by decide +kernel
theorem dX6_rests_6 : decode cX6_rests 6 = .ok (.iload_n 1, 1) := by decide +kernel
theorem dX6_rests_7 : decode cX6_rests 7 = .ok (.invokevirtual 147, 3) := by decide +kernel
theorem dX6_rests_10 : decode cX6_rests 10 = .ok (.ifCond .ne 11, 3) := by decide +kernel
theorem dX6_rests_13 : decode cX6_rests 13 = .ok (.aload_n 0, 1) := by decide +kernel
theorem dX6_rests_14 : decode cX6_rests 14 = .ok (.iload_n 2, 1) := by decide +kernel
theorem dX6_rests_15 : decode cX6_rests 15 = .ok (.invokevirtual 147, 3) := by decide +kernel
theorem dX6_rests_18 : decode cX6_rests 18 = .ok (.ifCond .eq 5, 3) := by decide +kernel
theorem dX6_rests_21 : decode cX6_rests 21 = .ok (.iconst (-1), 1) := by decide +kernel
theorem dX6_rests_22 : decode cX6_rests 22 = .ok (.ireturn, 1) := by decide +kernel
theorem dX6_rests_23 : decode cX6_rests 23 = .ok (.iload_n 1, 1) := by decide +kernel
theorem dX6_rests_24 : decode cX6_rests 24 = .ok (.iload_n 2, 1) := by decide +kernel
theorem dX6_rests_25 : decode cX6_rests 25 = .ok (.if_icmp .eq 13, 3) := by decide +kernel
theorem dX6_rests_28 : decode cX6_rests 28 = .ok (.iload_n 3, 1) := by decide +kernel
theorem dX6_rests_29 : decode cX6_rests 29 = .ok (.i2l, 1) := by decide +kernel
theorem dX6_rests_30 : decode cX6_rests 30 = .ok (.lconst 0, 1) := by decide +kernel
theorem dX6_rests_31 : decode cX6_rests 31 = .ok (.lconst 1, 1) := by decide +kernel
theorem dX6_rests_32 : decode cX6_rests 32 = .ok (.invokestatic 75, 3) := by decide +kernel
theorem dX6_rests_35 : decode cX6_rests 35 = .ok (.ifCond .ne 6, 3) := by decide +kernel
theorem dX6_rests_38 : decode cX6_rests 38 = .ok (.bipush (-2), 2) := by decide +kernel
theorem dX6_rests_40 : decode cX6_rests 40 = .ok (.ireturn, 1) := by decide +kernel
theorem dX6_rests_41 : decode cX6_rests 41 = .ok (.iconst 0, 1) := by decide +kernel
theorem dX6_rests_42 : decode cX6_rests 42 = .ok (.istore 4, 2) := by decide +kernel
theorem dX6_rests_44 : decode cX6_rests 44 = .ok (.iload 4, 2) := by decide +kernel
theorem dX6_rests_46 : decode cX6_rests 46 = .ok (.iconst 4, 1) := by decide +kernel
theorem dX6_rests_47 : decode cX6_rests 47 = .ok (.if_icmp .ge 128, 3) := by decide +kernel
theorem dX6_rests_50 : decode cX6_rests 50 = .ok (.aload_n 0, 1) := by decide +kernel
theorem dX6_rests_51 : decode cX6_rests 51 = .ok (.invokevirtual 188, 3) := by decide +kernel
theorem dX6_rests_54 : decode cX6_rests 54 = .ok (.iload 4, 2) := by decide +kernel
theorem dX6_rests_56 : decode cX6_rests 56 = .ok (.iconst 1, 1) := by decide +kernel
theorem dX6_rests_57 : decode cX6_rests 57 = .ok (.if_icmp .le 8, 3) := by decide +kernel
theorem dX6_rests_60 : decode cX6_rests 60 = .ok (.aload_n 0, 1) := by decide +kernel
theorem dX6_rests_61 : decode cX6_rests 61 = .ok (.iload_n 1, 1) := by decide +kernel
theorem dX6_rests_62 : decode cX6_rests 62 = .ok (.invokevirtual 250, 3) := by decide +kernel
theorem dX6_rests_65 : decode cX6_rests 65 = .ok (.iload 4, 2) := by decide +kernel
theorem dX6_rests_67 : decode cX6_rests 67 = .ok (.iconst 2, 1) := by decide +kernel
theorem dX6_rests_68 : decode cX6_rests 68 = .ok (.irem, 1) := by decide +kernel
theorem dX6_rests_69 : decode cX6_rests 69 = .ok (.iconst 1, 1) := by decide +kernel
theorem dX6_rests_70 : decode cX6_rests 70 = .ok (.if_icmp .ne 8, 3) := by decide +kernel
theorem dX6_rests_73 : decode cX6_rests 73 = .ok (.aload_n 0, 1) := by decide +kernel
theorem dX6_rests_74 : decode cX6_rests 74 = .ok (.iload_n 2, 1) := by decide +kernel
theorem dX6_rests_75 : decode cX6_rests 75 = .ok (.invokevirtual 250, 3) := by decide +kernel
theorem dX6_rests_78 : decode cX6_rests 78 = .ok (.aload_n 0, 1) := by decide +kernel
theorem dX6_rests_79 : decode cX6_rests 79 = .ok (.getfield 43, 3) := by decide +kernel
theorem dX6_rests_82 : decode cX6_rests 82 = .ok (.iconst 1, 1) := by decide +kernel
theorem dX6_rests_83 : decode cX6_rests 83 = .ok (.iload_n 1, 1) := by decide +kernel
theorem dX6_rests_84 : decode cX6_rests 84 = .ok (.iadd, 1) := by decide +kernel
theorem dX6_rests_85 : decode cX6_rests 85 = .ok (.iaload, 1) := by decide +kernel
theorem dX6_rests_86 : decode cX6_rests 86 = .ok (.istore 5, 2) := by decide +kernel
theorem dX6_rests_88 : decode cX6_rests 88 = .ok (.aload_n 0, 1) := by decide +kernel
theorem dX6_rests_89 : decode cX6_rests 89 = .ok (.getfield 43, 3) := by decide +kernel
theorem dX6_rests_92 : decode cX6_rests 92 = .ok (.iconst 1, 1) := by decide +kernel
theorem dX6_rests_93 : decode cX6_rests 93 = .ok (.iload_n 2, 1) := by decide +kernel
theorem dX6_rests_94 : decode cX6_rests 94 = .ok (.iadd, 1) := by decide +kernel
theorem dX6_rests_95 : decode cX6_rests 95 = .ok (.iaload, 1) := by decide +kernel
theorem dX6_rests_96 : decode cX6_rests 96 = .ok (.istore 6, 2) := by decide +kernel
theorem dX6_rests_98 : decode cX6_rests 98 = .ok (.aload_n 0, 1) := by decide +kernel
theorem dX6_rests_99 : decode cX6_rests 99 = .ok (.bipush 20, 2) := by decide +kernel
theorem dX6_rests_101 : decode cX6_rests 101 = .ok (.invokevirtual 191, 3) := by decide +kernel
theorem dX6_rests_104 : decode cX6_rests 104 = .ok (.aload_n 0, 1) := by decide +kernel
theorem dX6_rests_105 : decode cX6_rests 105 = .ok (.aload_n 0, 1) := by decide +kernel
theorem dX6_rests_106 : decode cX6_rests 106 = .ok (.getfield 43, 3) := by decide +kernel
theorem dX6_rests_109 : decode cX6_rests 109 = .ok (.iconst 1, 1) := by decide +kernel
theorem dX6_rests_110 : decode cX6_rests 110 = .ok (.invokevirtual 141, 3) := by decide +kernel
theorem dX6_rests_113 : decode cX6_rests 113 = .ok (.iconst (-1), 1) := by decide +kernel
theorem dX6_rests_114 : decode cX6_rests 114 = .ok (.ixor, 1) := by decide +kernel
theorem dX6_rests_115 : decode cX6_rests 115 = .ok (.istore 7, 2) := by decide +kernel
theorem dX6_rests_117 : decode cX6_rests 117 = .ok (.aload_n 0, 1) := by decide +kernel
theorem dX6_rests_118 : decode cX6_rests 118 = .ok (.getfield 62, 3) := by decide +kernel
theorem dX6_rests_121 : decode cX6_rests 121 = .ok (.iconst 2, 1) := by decide +kernel
theorem dX6_rests_122 : decode cX6_rests 122 = .ok (.iload 4, 2) := by decide +kernel
theorem dX6_rests_124 : decode cX6_rests 124 = .ok (.imul, 1) := by decide +kernel
theorem dX6_rests_125 : decode cX6_rests 125 = .ok (.iload 5, 2) := by decide +kernel
theorem dX6_rests_127 : decode cX6_rests 127 = .ok (.iconst 5, 1) := by decide +kernel
theorem dX6_rests_128 : decode cX6_rests 128 = .ok (.aload_n 0, 1) := by decide +kernel
theorem dX6_rests_129 : decode cX6_rests 129 = .ok (.iload_n 1, 1) := by decide +kernel
theorem dX6_rests_130 : decode cX6_rests 130 = .ok (.invokevirtual 155, 3) := by decide +kernel
theorem dX6_rests_133 : decode cX6_rests 133 = .ok (.iload 7, 2) := by decide +kernel
theorem dX6_rests_135 : decode cX6_rests 135 = .ok (.iand, 1) := by decide +kernel
theorem dX6_rests_136 : decode cX6_rests 136 = .ok (.invokestatic 199, 3) := by decide +kernel
theorem dX6_rests_139 : decode cX6_rests 139 = .ok (.imul, 1) := by decide +kernel
theorem dX6_rests_140 : decode cX6_rests 140 = .ok (.isub, 1) := by decide +kernel
theorem dX6_rests_141 : decode cX6_rests 141 = .ok (.iastore, 1) := by decide +kernel
theorem dX6_rests_142 : decode cX6_rests 142 = .ok (.aload_n 0, 1) := by decide +kernel
theorem dX6_rests_143 : decode cX6_rests 143 = .ok (.getfield 62, 3) := by decide +kernel
theorem dX6_rests_146 : decode cX6_rests 146 = .ok (.iconst 2, 1) := by decide +kernel
theorem dX6_rests_147 : decode cX6_rests 147 = .ok (.iload 4, 2) := by decide +kernel
theorem dX6_rests_149 : decode cX6_rests 149 = .ok (.imul, 1) := by decide +kernel
theorem dX6_rests_150 : decode cX6_rests 150 = .ok (.iconst 1, 1) := by decide +kernel
theorem dX6_rests_151 : decode cX6_rests 151 = .ok (.iadd, 1) := by decide +kernel
theorem dX6_rests_152 : decode cX6_rests 152 = .ok (.iload 6, 2) := by decide +kernel
theorem dX6_rests_154 : decode cX6_rests 154 = .ok (.iconst 5, 1) := by decide +kernel
theorem dX6_rests_155 : decode cX6_rests 155 = .ok (.aload_n 0, 1) := by decide +kernel
theorem dX6_rests_156 : decode cX6_rests 156 = .ok (.iload_n 2, 1) := by decide +kernel
theorem dX6_rests_157 : decode cX6_rests 157 = .ok (.invokevirtual 155, 3) := by decide +kernel
theorem dX6_rests_160 : decode cX6_rests 160 = .ok (.iload 7, 2) := by decide +kernel
theorem dX6_rests_162 : decode cX6_rests 162 = .ok (.iand, 1) := by decide +kernel
theorem dX6_rests_163 : decode cX6_rests 163 = .ok (.invokestatic 199, 3) := by decide +kernel
theorem dX6_rests_166 : decode cX6_rests 166 = .ok (.imul, 1) := by decide +kernel
theorem dX6_rests_167 : decode cX6_rests 167 = .ok (.isub, 1) := by decide +kernel
theorem dX6_rests_168 : decode cX6_rests 168 = .ok (.iastore, 1) := by decide +kernel
theorem dX6_rests_169 : decode cX6_rests 169 = .ok (.iinc 4 1, 3) := by decide +kernel
theorem dX6_rests_172 : decode cX6_rests 172 = .ok (.goto (-128), 3) := by decide +kernel
theorem dX6_rests_175 : decode cX6_rests 175 = .ok (.aload_n 0, 1) := by decide +kernel
theorem dX6_rests_176 : decode cX6_rests 176 = .ok (.iconst 0, 1) := by decide +kernel
theorem dX6_rests_177 : decode cX6_rests 177 = .ok (.putfield 253, 3) := by decide +kernel
theorem dX6_rests_180 : decode cX6_rests 180 = .ok (.aload_n 0, 1) := by decide +kernel
theorem dX6_rests_181 : decode cX6_rests 181 = .ok (.bipush (-9), 2) := by decide +kernel
theorem dX6_rests_183 : decode cX6_rests 183 = .ok (.putfield 256, 3) := by decide +kernel
theorem dX6_rests_186 : decode cX6_rests 186 = .ok (.iconst 0, 1) := by decide +kernel
theorem dX6_rests_187 : decode cX6_rests 187 = .ok (.istore 4, 2) := by decide +kernel
theorem dX6_rests_189 : decode cX6_rests 189 = .ok (.iload 4, 2) := by decide +kernel
theorem dX6_rests_191 : decode cX6_rests 191 = .ok (.iconst 4, 1) := by decide +kernel
theorem dX6_rests_192 : decode cX6_rests 192 = .ok (.if_icmp .ge 120, 3) := by decide +kernel
theorem dX6_rests_195 : decode cX6_rests 195 = .ok (.aload_n 0, 1) := by decide +kernel
theorem dX6_rests_196 : decode cX6_rests 196 = .ok (.getfield 62, 3) := by decide +kernel
theorem dX6_rests_199 : decode cX6_rests 199 = .ok (.iconst 2, 1) := by decide +kernel
theorem dX6_rests_200 : decode cX6_rests 200 = .ok (.iload 4, 2) := by decide +kernel
theorem dX6_rests_202 : decode cX6_rests 202 = .ok (.iconst 2, 1) := by decide +kernel
theorem dX6_rests_203 : decode cX6_rests 203 = .ok (.ixor, 1) := by decide +kernel
theorem dX6_rests_204 : decode cX6_rests 204 = .ok (.imul, 1) := by decide +kernel
theorem dX6_rests_205 : decode cX6_rests 205 = .ok (.iaload, 1) := by decide +kernel
theorem dX6_rests_206 : decode cX6_rests 206 = .ok (.aload_n 0, 1) := by decide +kernel
theorem dX6_rests_207 : decode cX6_rests 207 = .ok (.getfield 62, 3) := by decide +kernel
theorem dX6_rests_210 : decode cX6_rests 210 = .ok (.iconst 2, 1) := by decide +kernel
theorem dX6_rests_211 : decode cX6_rests 211 = .ok (.iload 4, 2) := by decide +kernel
theorem dX6_rests_213 : decode cX6_rests 213 = .ok (.imul, 1) := by decide +kernel
theorem dX6_rests_214 : decode cX6_rests 214 = .ok (.iaload, 1) := by decide +kernel
theorem dX6_rests_215 : decode cX6_rests 215 = .ok (.if_icmp .gt 34, 3) := by decide +kernel
theorem dX6_rests_218 : decode cX6_rests 218 = .ok (.aload_n 0, 1) := by decide +kernel
theorem dX6_rests_219 : decode cX6_rests 219 = .ok (.getfield 62, 3) := by decide +kernel
theorem dX6_rests_222 : decode cX6_rests 222 = .ok (.iconst 2, 1) := by decide +kernel
theorem dX6_rests_223 : decode cX6_rests 223 = .ok (.iload 4, 2) := by decide +kernel
theorem dX6_rests_225 : decode cX6_rests 225 = .ok (.iconst 1, 1) := by decide +kernel
theorem dX6_rests_226 : decode cX6_rests 226 = .ok (.ixor, 1) := by decide +kernel
theorem dX6_rests_227 : decode cX6_rests 227 = .ok (.imul, 1) := by decide +kernel
theorem dX6_rests_228 : decode cX6_rests 228 = .ok (.iconst 1, 1) := by decide +kernel
theorem dX6_rests_229 : decode cX6_rests 229 = .ok (.iadd, 1) := by decide +kernel
theorem dX6_rests_230 : decode cX6_rests 230 = .ok (.iaload, 1) := by decide +kernel
theorem dX6_rests_231 : decode cX6_rests 231 = .ok (.aload_n 0, 1) := by decide +kernel
theorem dX6_rests_232 : decode cX6_rests 232 = .ok (.getfield 62, 3) := by decide +kernel
theorem dX6_rests_235 : decode cX6_rests 235 = .ok (.iconst 2, 1) := by decide +kernel
theorem dX6_rests_236 : decode cX6_rests 236 = .ok (.iload 4, 2) := by decide +kernel
theorem dX6_rests_238 : decode cX6_rests 238 = .ok (.imul, 1) := by decide +kernel
theorem dX6_rests_239 : decode cX6_rests 239 = .ok (.iconst 1, 1) := by decide +kernel
theorem dX6_rests_240 : decode cX6_rests 240 = .ok (.iadd, 1) := by decide +kernel
theorem dX6_rests_241 : decode cX6_rests 241 = .ok (.iaload, 1) := by decide +kernel
theorem dX6_rests_242 : decode cX6_rests 242 = .ok (.if_icmp .gt 7, 3) := by decide +kernel
theorem dX6_rests_245 : decode cX6_rests 245 = .ok (.iconst 1, 1) := by decide +kernel
theorem dX6_rests_246 : decode cX6_rests 246 = .ok (.goto 4, 3) := by decide +kernel
theorem dX6_rests_249 : decode cX6_rests 249 = .ok (.iconst 0, 1) := by decide +kernel
theorem dX6_rests_250 : decode cX6_rests 250 = .ok (.istore 5, 2) := by decide +kernel
theorem dX6_rests_252 : decode cX6_rests 252 = .ok (.aload_n 0, 1) := by decide +kernel
theorem dX6_rests_253 : decode cX6_rests 253 = .ok (.iload 5, 2) := by decide +kernel
theorem dX6_rests_255 : decode cX6_rests 255 = .ok (.ifCond .eq 25, 3) := by decide +kernel
theorem dX6_rests_258 : decode cX6_rests 258 = .ok (.aload_n 0, 1) := by decide +kernel
theorem dX6_rests_259 : decode cX6_rests 259 = .ok (.getfield 253, 3) := by decide +kernel
theorem dX6_rests_262 : decode cX6_rests 262 = .ok (.ifCond .ne 18, 3) := by decide +kernel
theorem dX6_rests_265 : decode cX6_rests 265 = .ok (.bipush 10, 2) := by decide +kernel
theorem dX6_rests_267 : decode cX6_rests 267 = .ok (.iload 4, 2) := by decide +kernel
theorem dX6_rests_269 : decode cX6_rests 269 = .ok (.iconst 2, 1) := by decide +kernel
theorem dX6_rests_270 : decode cX6_rests 270 = .ok (.idiv, 1) := by decide +kernel
theorem dX6_rests_271 : decode cX6_rests 271 = .ok (.imul, 1) := by decide +kernel
theorem dX6_rests_272 : decode cX6_rests 272 = .ok (.iload 4, 2) := by decide +kernel
theorem dX6_rests_274 : decode cX6_rests 274 = .ok (.iconst 2, 1) := by decide +kernel
theorem dX6_rests_275 : decode cX6_rests 275 = .ok (.irem, 1) := by decide +kernel
theorem dX6_rests_276 : decode cX6_rests 276 = .ok (.iadd, 1) := by decide +kernel
theorem dX6_rests_277 : decode cX6_rests 277 = .ok (.goto 7, 3) := by decide +kernel
theorem dX6_rests_280 : decode cX6_rests 280 = .ok (.aload_n 0, 1) := by decide +kernel
theorem dX6_rests_281 : decode cX6_rests 281 = .ok (.getfield 256, 3) := by decide +kernel
theorem dX6_rests_284 : decode cX6_rests 284 = .ok (.putfield 256, 3) := by decide +kernel
theorem dX6_rests_287 : decode cX6_rests 287 = .ok (.aload_n 0, 1) := by decide +kernel
theorem dX6_rests_288 : decode cX6_rests 288 = .ok (.dup, 1) := by decide +kernel
theorem dX6_rests_289 : decode cX6_rests 289 = .ok (.getfield 253, 3) := by decide +kernel
theorem dX6_rests_292 : decode cX6_rests 292 = .ok (.iload 5, 2) := by decide +kernel
theorem dX6_rests_294 : decode cX6_rests 294 = .ok (.ifCond .eq 7, 3) := by decide +kernel
theorem dX6_rests_297 : decode cX6_rests 297 = .ok (.iconst 1, 1) := by decide +kernel
theorem dX6_rests_298 : decode cX6_rests 298 = .ok (.goto 4, 3) := by decide +kernel
theorem dX6_rests_301 : decode cX6_rests 301 = .ok (.iconst 0, 1) := by decide +kernel
theorem dX6_rests_302 : decode cX6_rests 302 = .ok (.iadd, 1) := by decide +kernel
theorem dX6_rests_303 : decode cX6_rests 303 = .ok (.putfield 253, 3) := by decide +kernel
theorem dX6_rests_306 : decode cX6_rests 306 = .ok (.iinc 4 1, 3) := by decide +kernel
theorem dX6_rests_309 : decode cX6_rests 309 = .ok (.goto (-120), 3) := by decide +kernel
theorem dX6_rests_312 : decode cX6_rests 312 = .ok (.iload_n 3, 1) := by decide +kernel
theorem dX6_rests_313 : decode cX6_rests 313 = .ok (.ifCond .ne 10, 3) := by decide +kernel
theorem dX6_rests_316 : decode cX6_rests 316 = .ok (.aload_n 0, 1) := by decide +kernel
theorem dX6_rests_317 : decode cX6_rests 317 = .ok (.getfield 253, 3) := by decide +kernel
theorem dX6_rests_320 : decode cX6_rests 320 = .ok (.goto 7, 3) := by decide +kernel
theorem dX6_rests_323 : decode cX6_rests 323 = .ok (.aload_n 0, 1) := by decide +kernel
theorem dX6_rests_324 : decode cX6_rests 324 = .ok (.getfield 256, 3) := by decide +kernel
theorem dX6_rests_327 : decode cX6_rests 327 = .ok (.ireturn, 1) := by decide +kernel
theorem dX6_sales_0 : decode cX6_sales 0 = .ok (.aload_n 0, 1) := by decide +kernel
theorem dX6_sales_1 : decode cX6_sales 1 = .ok (.iconst 0, 1) := by decide +kernel
theorem dX6_sales_2 : decode cX6_sales 2 = .ok (.putfield 68, 3) := by decide +kernel
theorem dX6_sales_5 : decode cX6_sales 5 = .ok (.iload_n 1, 1) := by decide +kernel
theorem dX6_sales_6 : decode cX6_sales 6 = .ok (.i2l, 1) := by decide +kernel
theorem dX6_sales_7 : decode cX6_sales 7 = .ok (.lconst 0, 1) := by decide +kernel
theorem dX6_sales_8 : decode cX6_sales 8 = .ok (.ldc2_w 259, 3) := by decide +kernel
theorem dX6_sales_11 : decode cX6_sales 11 = .ok (.invokestatic 75, 3) := by decide +kernel
theorem dX6_sales_14 : decode cX6_sales 14 = .ok (.ifCond .eq 15, 3) := by decide +kernel
theorem dX6_sales_17 : decode cX6_sales 17 = .ok (.iload_n 2, 1) := by decide +kernel
theorem dX6_sales_18 : decode cX6_sales 18 = .ok (.i2l, 1) := by decide +kernel
theorem dX6_sales_19 : decode cX6_sales 19 = .ok (.lconst 0, 1) := by decide +kernel
theorem dX6_sales_20 : decode cX6_sales 20 = .ok (.ldc2_w 261, 3) := by decide +kernel
theorem dX6_sales_23 : decode cX6_sales 23 = .ok (.invokestatic 75, 3) := by decide +kernel
theorem dX6_sales_26 : decode cX6_sales 26 = .ok (.ifCond .ne 6, 3) := by decide +kernel
theorem dX6_sales_29 : decode cX6_sales 29 = .ok (.bipush (-2), 2) := by decide +kernel
theorem dX6_sales_31 : decode cX6_sales 31 = .ok (.ireturn, 1) := by decide +kernel
theorem dX6_sales_32 : decode cX6_sales 32 = .ok (.aload_n 0, 1) := by decide +kernel
theorem dX6_sales_33 : decode cX6_sales 33 = .ok (.aload_n 0, 1) := by decide +kernel
theorem dX6_sales_34 : decode cX6_sales 34 = .ok (.getfield 40, 3) := by decide +kernel
theorem dX6_sales_37 : decode cX6_sales 37 = .ok (.iconst 1, 1) := by decide +kernel
theorem dX6_sales_38 : decode cX6_sales 38 = .ok (.invokevirtual 137, 3) := by decide +kernel
theorem dX6_sales_41 : decode cX6_sales 41 = .ok (.istore 4, 2) := by decide +kernel
theorem dX6_sales_43 : decode cX6_sales 43 = .ok (.iload 4, 2) := by decide +kernel
theorem dX6_sales_45 : decode cX6_sales 45 = .ok (.invokestatic 199, 3) := by decide +kernel
theorem dX6_sales_48 : decode cX6_sales 48 = .ok (.istore 5, 2) := by decide +kernel
theorem dX6_sales_50 : decode cX6_sales 50 = .ok (.iconst 0, 1) := by decide +kernel
theorem dX6_sales_51 : decode cX6_sales 51 = .ok (.istore 6, 2) := by decide +kernel
theorem dX6_sales_53 : decode cX6_sales 53 = .ok (.iconst 0, 1) := by decide +kernel
theorem dX6_sales_54 : decode cX6_sales 54 = .ok (.istore 7, 2) := by decide +kernel
theorem dX6_sales_56 : decode cX6_sales 56 = .ok (.iload 7, 2) := by decide +kernel
theorem dX6_sales_58 : decode cX6_sales 58 = .ok (.iconst 1, 1) := by decide +kernel
theorem dX6_sales_59 : decode cX6_sales 59 = .ok (.aload_n 0, 1) := by decide +kernel
theorem dX6_sales_60 : decode cX6_sales 60 = .ok (.getfield 79, 3) := by decide +kernel
theorem dX6_sales_63 : decode cX6_sales 63 = .ok (.ishl, 1) := by decide +kernel
theorem dX6_sales_64 : decode cX6_sales 64 = .ok (.if_icmp .ge 144, 3) := by decide +kernel
theorem dX6_sales_67 : decode cX6_sales 67 = .ok (.iload 7, 2) := by decide +kernel
theorem dX6_sales_69 : decode cX6_sales 69 = .ok (.iload 4, 2) := by decide +kernel
theorem dX6_sales_71 : decode cX6_sales 71 = .ok (.iconst (-1), 1) := by decide +kernel
theorem dX6_sales_72 : decode cX6_sales 72 = .ok (.ixor, 1) := by decide +kernel
theorem dX6_sales_73 : decode cX6_sales 73 = .ok (.iand, 1) := by decide +kernel
theorem dX6_sales_74 : decode cX6_sales 74 = .ok (.ifCond .ne 128, 3) := by decide +kernel
theorem dX6_sales_77 : decode cX6_sales 77 = .ok (.aload_n 0, 1) := by decide +kernel
theorem dX6_sales_78 : decode cX6_sales 78 = .ok (.invokevirtual 188, 3) := by decide +kernel
theorem dX6_sales_81 : decode cX6_sales 81 = .ok (.iconst 0, 1) := by decide +kernel
theorem dX6_sales_82 : decode cX6_sales 82 = .ok (.istore 8, 2) := by decide +kernel
theorem dX6_sales_84 : decode cX6_sales 84 = .ok (.iload 8, 2) := by decide +kernel
theorem dX6_sales_86 : decode cX6_sales 86 = .ok (.aload_n 0, 1) := by decide +kernel
theorem dX6_sales_87 : decode cX6_sales 87 = .ok (.getfield 79, 3) := by decide +kernel
theorem dX6_sales_90 : decode cX6_sales 90 = .ok (.if_icmp .ge 55, 3) := by decide +kernel
theorem dX6_sales_93 : decode cX6_sales 93 = .ok (.aload_n 0, 1) := by decide +kernel
theorem dX6_sales_94 : decode cX6_sales 94 = .ok (.getfield 43, 3) := by decide +kernel
theorem dX6_sales_97 : decode cX6_sales 97 = .ok (.iconst 4, 1) := by decide +kernel
theorem dX6_sales_98 : decode cX6_sales 98 = .ok (.iload 8, 2) := by decide +kernel
theorem dX6_sales_100 : decode cX6_sales 100 = .ok (.iadd, 1) := by decide +kernel
theorem dX6_sales_101 : decode cX6_sales 101 = .ok (.iload 7, 2) := by decide +kernel
theorem dX6_sales_103 : decode cX6_sales 103 = .ok (.iload 8, 2) := by decide +kernel
theorem dX6_sales_105 : decode cX6_sales 105 = .ok (.invokestatic 195, 3) := by decide +kernel
theorem dX6_sales_108 : decode cX6_sales 108 = .ok (.ifCond .eq 7, 3) := by decide +kernel
theorem dX6_sales_111 : decode cX6_sales 111 = .ok (.iconst 2, 1) := by decide +kernel
theorem dX6_sales_112 : decode cX6_sales 112 = .ok (.goto 26, 3) := by decide +kernel
theorem dX6_sales_115 : decode cX6_sales 115 = .ok (.iload 4, 2) := by decide +kernel
theorem dX6_sales_117 : decode cX6_sales 117 = .ok (.iload 8, 2) := by decide +kernel
theorem dX6_sales_119 : decode cX6_sales 119 = .ok (.invokestatic 195, 3) := by decide +kernel
theorem dX6_sales_122 : decode cX6_sales 122 = .ok (.ifCond .eq 7, 3) := by decide +kernel
theorem dX6_sales_125 : decode cX6_sales 125 = .ok (.iconst 0, 1) := by decide +kernel
theorem dX6_sales_126 : decode cX6_sales 126 = .ok (.goto 12, 3) := by decide +kernel
theorem dX6_sales_129 : decode cX6_sales 129 = .ok (.aload_n 0, 1) := by decide +kernel
theorem dX6_sales_130 : decode cX6_sales 130 = .ok (.getfield 43, 3) := by decide +kernel
theorem dX6_sales_133 : decode cX6_sales 133 = .ok (.iconst 4, 1) := by decide +kernel
theorem dX6_sales_134 : decode cX6_sales 134 = .ok (.iload 8, 2) := by decide +kernel
theorem dX6_sales_136 : decode cX6_sales 136 = .ok (.iadd, 1) := by decide +kernel
theorem dX6_sales_137 : decode cX6_sales 137 = .ok (.iaload, 1) := by decide +kernel
theorem dX6_sales_138 : decode cX6_sales 138 = .ok (.iastore, 1) := by decide +kernel
theorem dX6_sales_139 : decode cX6_sales 139 = .ok (.iinc 8 1, 3) := by decide +kernel
theorem dX6_sales_142 : decode cX6_sales 142 = .ok (.goto (-58), 3) := by decide +kernel
theorem dX6_sales_145 : decode cX6_sales 145 = .ok (.aload_n 0, 1) := by decide +kernel
theorem dX6_sales_146 : decode cX6_sales 146 = .ok (.bipush 20, 2) := by decide +kernel
theorem dX6_sales_148 : decode cX6_sales 148 = .ok (.invokevirtual 191, 3) := by decide +kernel
theorem dX6_sales_151 : decode cX6_sales 151 = .ok (.iload 7, 2) := by decide +kernel
theorem dX6_sales_153 : decode cX6_sales 153 = .ok (.invokestatic 199, 3) := by decide +kernel
theorem dX6_sales_156 : decode cX6_sales 156 = .ok (.istore 8, 2) := by decide +kernel
theorem dX6_sales_158 : decode cX6_sales 158 = .ok (.iload 6, 2) := by decide +kernel
theorem dX6_sales_160 : decode cX6_sales 160 = .ok (.aload_n 0, 1) := by decide +kernel
theorem dX6_sales_161 : decode cX6_sales 161 = .ok (.aload_n 0, 1) := by decide +kernel
theorem dX6_sales_162 : decode cX6_sales 162 = .ok (.getfield 43, 3) := by decide +kernel
theorem dX6_sales_165 : decode cX6_sales 165 = .ok (.iconst 1, 1) := by decide +kernel
theorem dX6_sales_166 : decode cX6_sales 166 = .ok (.invokevirtual 141, 3) := by decide +kernel
theorem dX6_sales_169 : decode cX6_sales 169 = .ok (.invokestatic 199, 3) := by decide +kernel
theorem dX6_sales_172 : decode cX6_sales 172 = .ok (.iload_n 1, 1) := by decide +kernel
theorem dX6_sales_173 : decode cX6_sales 173 = .ok (.if_icmp .lt 25, 3) := by decide +kernel
theorem dX6_sales_176 : decode cX6_sales 176 = .ok (.iload_n 2, 1) := by decide +kernel
theorem dX6_sales_177 : decode cX6_sales 177 = .ok (.iload 8, 2) := by decide +kernel
theorem dX6_sales_179 : decode cX6_sales 179 = .ok (.invokestatic 263, 3) := by decide +kernel
theorem dX6_sales_182 : decode cX6_sales 182 = .ok (.bipush 10, 2) := by decide +kernel
theorem dX6_sales_184 : decode cX6_sales 184 = .ok (.iload_n 2, 1) := by decide +kernel
theorem dX6_sales_185 : decode cX6_sales 185 = .ok (.isub, 1) := by decide +kernel
theorem dX6_sales_186 : decode cX6_sales 186 = .ok (.iload 5, 2) := by decide +kernel
theorem dX6_sales_188 : decode cX6_sales 188 = .ok (.iload 8, 2) := by decide +kernel
theorem dX6_sales_190 : decode cX6_sales 190 = .ok (.isub, 1) := by decide +kernel
theorem dX6_sales_191 : decode cX6_sales 191 = .ok (.invokestatic 263, 3) := by decide +kernel
theorem dX6_sales_194 : decode cX6_sales 194 = .ok (.imul, 1) := by decide +kernel
theorem dX6_sales_195 : decode cX6_sales 195 = .ok (.goto 4, 3) := by decide +kernel
theorem dX6_sales_198 : decode cX6_sales 198 = .ok (.iconst 0, 1) := by decide +kernel
theorem dX6_sales_199 : decode cX6_sales 199 = .ok (.iadd, 1) := by decide +kernel
theorem dX6_sales_200 : decode cX6_sales 200 = .ok (.istore 6, 2) := by decide +kernel
theorem dX6_sales_202 : decode cX6_sales 202 = .ok (.iinc 7 1, 3) := by decide +kernel
theorem dX6_sales_205 : decode cX6_sales 205 = .ok (.goto (-149), 3) := by decide +kernel
theorem dX6_sales_208 : decode cX6_sales 208 = .ok (.iload 6, 2) := by decide +kernel
theorem dX6_sales_210 : decode cX6_sales 210 = .ok (.bipush 10, 2) := by decide +kernel
theorem dX6_sales_212 : decode cX6_sales 212 = .ok (.iload 5, 2) := by decide +kernel
theorem dX6_sales_214 : decode cX6_sales 214 = .ok (.invokestatic 263, 3) := by decide +kernel
theorem dX6_sales_217 : decode cX6_sales 217 = .ok (.iload_n 3, 1) := by decide +kernel
theorem dX6_sales_218 : decode cX6_sales 218 = .ok (.invokestatic 236, 3) := by decide +kernel
theorem dX6_sales_221 : decode cX6_sales 221 = .ok (.ireturn, 1) := by decide +kernel
theorem dX6_seed_0 : decode cX6_seed 0 = .ok (.aload_n 0, 1) := by decide +kernel
theorem dX6_seed_1 : decode cX6_seed 1 = .ok (.iconst 0, 1) := by decide +kernel
theorem dX6_seed_2 : decode cX6_seed 2 = .ok (.putfield 68, 3) := by decide +kernel
theorem dX6_seed_5 : decode cX6_seed 5 = .ok (.aload_n 0, 1) := by decide +kernel
theorem dX6_seed_6 : decode cX6_seed 6 = .ok (.getfield 266, 3) := by decide +kernel
theorem dX6_seed_9 : decode cX6_seed 9 = .ok (.lstore_n 3, 1) := by decide +kernel
theorem dX6_seed_10 : decode cX6_seed 10 = .ok (.aload_n 0, 1) := by decide +kernel
theorem dX6_seed_11 : decode cX6_seed 11 = .ok (.lload_n 1, 1) := by decide +kernel
theorem dX6_seed_12 : decode cX6_seed 12 = .ok (.putfield 266, 3) := by decide +kernel
theorem dX6_seed_15 : decode cX6_seed 15 = .ok (.lload_n 3, 1) := by decide +kernel
theorem dX6_seed_16 : decode cX6_seed 16 = .ok (.lreturn, 1) := by decide +kernel
theorem dX6_years_0 : decode cX6_years 0 = .ok (.aload_n 0, 1) := by decide +kernel
theorem dX6_years_1 : decode cX6_years 1 = .ok (.iconst 0, 1) := by decide +kernel
theorem dX6_years_2 : decode cX6_years 2 = .ok (.putfield 68, 3) := by decide +kernel
theorem dX6_years_5 : decode cX6_years 5 = .ok (.iload_n 1, 1) := by decide +kernel
theorem dX6_years_6 : decode cX6_years 6 = .ok (.i2l, 1) := by decide +kernel
theorem dX6_years_7 : decode cX6_years 7 = .ok (.lconst 1, 1) := by decide +kernel
theorem dX6_years_8 : decode cX6_years 8 = .ok (.ldc2_w 242, 3) := by decide +kernel
theorem dX6_years_11 : decode cX6_years 11 = .ok (.invokestatic 75, 3) := by decide +kernel
theorem dX6_years_14 : decode cX6_years 14 = .ok (.ifCond .ne 6, 3) := by decide +kernel
theorem dX6_years_17 : decode cX6_years 17 = .ok (.bipush (-2), 2) := by decide +kernel
theorem dX6_years_19 : decode cX6_years 19 = .ok (.ireturn, 1) := by decide +kernel
theorem dX6_years_20 : decode cX6_years 20 = .ok (.aload_n 0, 1) := by decide +kernel
theorem dX6_years_21 : decode cX6_years 21 = .ok (.invokevirtual 188, 3) := by decide +kernel
theorem dX6_years_24 : decode cX6_years 24 = .ok (.iconst 0, 1) := by decide +kernel
theorem dX6_years_25 : decode cX6_years 25 = .ok (.istore_n 2, 1) := by decide +kernel
theorem dX6_years_26 : decode cX6_years 26 = .ok (.iconst 0, 1) := by decide +kernel
theorem dX6_years_27 : decode cX6_years 27 = .ok (.istore_n 3, 1) := by decide +kernel
theorem dX6_years_28 : decode cX6_years 28 = .ok (.iload_n 3, 1) := by decide +kernel
theorem dX6_years_29 : decode cX6_years 29 = .ok (.iload_n 1, 1) := by decide +kernel
theorem dX6_years_30 : decode cX6_years 30 = .ok (.if_icmp .ge 127, 3) := by decide +kernel
theorem dX6_years_33 : decode cX6_years 33 = .ok (.aload_n 0, 1) := by decide +kernel
theorem dX6_years_34 : decode cX6_years 34 = .ok (.aload_n 0, 1) := by decide +kernel
theorem dX6_years_35 : decode cX6_years 35 = .ok (.getfield 266, 3) := by decide +kernel
theorem dX6_years_38 : decode cX6_years 38 = .ok (.ldc2_w 270, 3) := by decide +kernel
theorem dX6_years_41 : decode cX6_years 41 = .ok (.lmul, 1) := by decide +kernel
theorem dX6_years_42 : decode cX6_years 42 = .ok (.ldc2_w 272, 3) := by decide +kernel
theorem dX6_years_45 : decode cX6_years 45 = .ok (.ladd, 1) := by decide +kernel
theorem dX6_years_46 : decode cX6_years 46 = .ok (.putfield 266, 3) := by decide +kernel
theorem dX6_years_49 : decode cX6_years 49 = .ok (.aload_n 0, 1) := by decide +kernel
theorem dX6_years_50 : decode cX6_years 50 = .ok (.getfield 266, 3) := by decide +kernel
theorem dX6_years_53 : decode cX6_years 53 = .ok (.bipush 33, 2) := by decide +kernel
theorem dX6_years_55 : decode cX6_years 55 = .ok (.lushr, 1) := by decide +kernel
theorem dX6_years_56 : decode cX6_years 56 = .ok (.ldc2_w 274, 3) := by decide +kernel
theorem dX6_years_59 : decode cX6_years 59 = .ok (.lrem, 1) := by decide +kernel
theorem dX6_years_60 : decode cX6_years 60 = .ok (.l2i, 1) := by decide +kernel
theorem dX6_years_61 : decode cX6_years 61 = .ok (.istore 4, 2) := by decide +kernel
theorem dX6_years_63 : decode cX6_years 63 = .ok (.aload_n 0, 1) := by decide +kernel
theorem dX6_years_64 : decode cX6_years 64 = .ok (.iload 4, 2) := by decide +kernel
theorem dX6_years_66 : decode cX6_years 66 = .ok (.iconst 5, 1) := by decide +kernel
theorem dX6_years_67 : decode cX6_years 67 = .ok (.if_icmp .ge 11, 3) := by decide +kernel
theorem dX6_years_70 : decode cX6_years 70 = .ok (.bipush 100, 2) := by decide +kernel
theorem dX6_years_72 : decode cX6_years 72 = .ok (.iload 4, 2) := by decide +kernel
theorem dX6_years_74 : decode cX6_years 74 = .ok (.iadd, 1) := by decide +kernel
theorem dX6_years_75 : decode cX6_years 75 = .ok (.goto 42, 3) := by decide +kernel
theorem dX6_years_78 : decode cX6_years 78 = .ok (.iload 4, 2) := by decide +kernel
theorem dX6_years_80 : decode cX6_years 80 = .ok (.bipush 10, 2) := by decide +kernel
theorem dX6_years_82 : decode cX6_years 82 = .ok (.if_icmp .ge 12, 3) := by decide +kernel
theorem dX6_years_85 : decode cX6_years 85 = .ok (.sipush 195, 3) := by decide +kernel
theorem dX6_years_88 : decode cX6_years 88 = .ok (.iload 4, 2) := by decide +kernel
theorem dX6_years_90 : decode cX6_years 90 = .ok (.iadd, 1) := by decide +kernel
theorem dX6_years_91 : decode cX6_years 91 = .ok (.goto 26, 3) := by decide +kernel
theorem dX6_years_94 : decode cX6_years 94 = .ok (.iload 4, 2) := by decide +kernel
theorem dX6_years_96 : decode cX6_years 96 = .ok (.bipush 13, 2) := by decide +kernel
theorem dX6_years_98 : decode cX6_years 98 = .ok (.if_icmp .ge 18, 3) := by decide +kernel
theorem dX6_years_101 : decode cX6_years 101 = .ok (.sipush 302, 3) := by decide +kernel
theorem dX6_years_104 : decode cX6_years 104 = .ok (.bipush 10, 2) := by decide +kernel
theorem dX6_years_106 : decode cX6_years 106 = .ok (.iload 4, 2) := by decide +kernel
theorem dX6_years_108 : decode cX6_years 108 = .ok (.bipush 10, 2) := by decide +kernel
theorem dX6_years_110 : decode cX6_years 110 = .ok (.isub, 1) := by decide +kernel
theorem dX6_years_111 : decode cX6_years 111 = .ok (.imul, 1) := by decide +kernel
theorem dX6_years_112 : decode cX6_years 112 = .ok (.iadd, 1) := by decide +kernel
theorem dX6_years_113 : decode cX6_years 113 = .ok (.goto 4, 3) := by decide +kernel
theorem dX6_years_116 : decode cX6_years 116 = .ok (.iconst 0, 1) := by decide +kernel
theorem dX6_years_117 : decode cX6_years 117 = .ok (.invokevirtual 227, 3) := by decide +kernel
theorem dX6_years_120 : decode cX6_years 120 = .ok (.pop, 1) := by decide +kernel
theorem dX6_years_121 : decode cX6_years 121 = .ok (.iconst 0, 1) := by decide +kernel
theorem dX6_years_122 : decode cX6_years 122 = .ok (.istore 5, 2) := by decide +kernel
theorem dX6_years_124 : decode cX6_years 124 = .ok (.iload 5, 2) := by decide +kernel
theorem dX6_years_126 : decode cX6_years 126 = .ok (.aload_n 0, 1) := by decide +kernel
theorem dX6_years_127 : decode cX6_years 127 = .ok (.getfield 72, 3) := by decide +kernel
theorem dX6_years_130 : decode cX6_years 130 = .ok (.if_icmp .ge 21, 3) := by decide +kernel
theorem dX6_years_133 : decode cX6_years 133 = .ok (.iload_n 2, 1) := by decide +kernel
theorem dX6_years_134 : decode cX6_years 134 = .ok (.aload_n 0, 1) := by decide +kernel
theorem dX6_years_135 : decode cX6_years 135 = .ok (.getfield 43, 3) := by decide +kernel
theorem dX6_years_138 : decode cX6_years 138 = .ok (.iconst 1, 1) := by decide +kernel
theorem dX6_years_139 : decode cX6_years 139 = .ok (.iload 5, 2) := by decide +kernel
theorem dX6_years_141 : decode cX6_years 141 = .ok (.iadd, 1) := by decide +kernel
theorem dX6_years_142 : decode cX6_years 142 = .ok (.iaload, 1) := by decide +kernel
theorem dX6_years_143 : decode cX6_years 143 = .ok (.iadd, 1) := by decide +kernel
theorem dX6_years_144 : decode cX6_years 144 = .ok (.istore_n 2, 1) := by decide +kernel
theorem dX6_years_145 : decode cX6_years 145 = .ok (.iinc 5 1, 3) := by decide +kernel
theorem dX6_years_148 : decode cX6_years 148 = .ok (.goto (-24), 3) := by decide +kernel
theorem dX6_years_151 : decode cX6_years 151 = .ok (.iinc 3 1, 3) := by decide +kernel
theorem dX6_years_154 : decode cX6_years 154 = .ok (.goto (-126), 3) := by decide +kernel
theorem dX6_years_157 : decode cX6_years 157 = .ok (.iload_n 2, 1) := by decide +kernel
theorem dX6_years_158 : decode cX6_years 158 = .ok (.ireturn, 1) := by decide +kernel
theorem dX6_keep_0 : decode cX6_keep 0 = .ok (.aload_n 0, 1) := by decide +kernel
theorem dX6_keep_1 : decode cX6_keep 1 = .ok (.iconst 0, 1) := by decide +kernel
theorem dX6_keep_2 : decode cX6_keep 2 = .ok (.putfield 68, 3) := by decide +kernel
theorem dX6_keep_5 : decode cX6_keep 5 = .ok (.iload_n 1, 1) := by decide +kernel
theorem dX6_keep_6 : decode cX6_keep 6 = .ok (.i2l, 1) := by decide +kernel
theorem dX6_keep_7 : decode cX6_keep 7 = .ok (.lconst 0, 1) := by decide +kernel
theorem dX6_keep_8 : decode cX6_keep 8 = .ok (.lconst 1, 1) := by decide +kernel
theorem dX6_keep_9 : decode cX6_keep 9 = .ok (.invokestatic 75, 3) := by decide +kernel
theorem dX6_keep_12 : decode cX6_keep 12 = .ok (.ifCond .ne 5, 3) := by decide +kernel
theorem dX6_keep_15 : decode cX6_keep 15 = .ok (.iconst (-1), 1) := by decide +kernel
theorem dX6_keep_16 : decode cX6_keep 16 = .ok (.ireturn, 1) := by decide +kernel
theorem dX6_keep_17 : decode cX6_keep 17 = .ok (.aload_n 0, 1) := by decide +kernel
theorem dX6_keep_18 : decode cX6_keep 18 = .ok (.getfield 52, 3) := by decide +kernel
theorem dX6_keep_21 : decode cX6_keep 21 = .ok (.iload_n 1, 1) := by decide +kernel
theorem dX6_keep_22 : decode cX6_keep 22 = .ok (.iconst 1, 1) := by decide +kernel
theorem dX6_keep_23 : decode cX6_keep 23 = .ok (.bastore, 1) := by decide +kernel
theorem dX6_keep_24 : decode cX6_keep 24 = .ok (.iconst 0, 1) := by decide +kernel
theorem dX6_keep_25 : decode cX6_keep 25 = .ok (.istore_n 2, 1) := by decide +kernel
theorem dX6_keep_26 : decode cX6_keep 26 = .ok (.iload_n 2, 1) := by decide +kernel
theorem dX6_keep_27 : decode cX6_keep 27 = .ok (.bipush 20, 2) := by decide +kernel
theorem dX6_keep_29 : decode cX6_keep 29 = .ok (.if_icmp .ge 26, 3) := by decide +kernel
theorem dX6_keep_32 : decode cX6_keep 32 = .ok (.aload_n 0, 1) := by decide +kernel
theorem dX6_keep_33 : decode cX6_keep 33 = .ok (.getfield 49, 3) := by decide +kernel
theorem dX6_keep_36 : decode cX6_keep 36 = .ok (.bipush 20, 2) := by decide +kernel
theorem dX6_keep_38 : decode cX6_keep 38 = .ok (.iload_n 1, 1) := by decide +kernel
theorem dX6_keep_39 : decode cX6_keep 39 = .ok (.imul, 1) := by decide +kernel
theorem dX6_keep_40 : decode cX6_keep 40 = .ok (.iload_n 2, 1) := by decide +kernel
theorem dX6_keep_41 : decode cX6_keep 41 = .ok (.iadd, 1) := by decide +kernel
theorem dX6_keep_42 : decode cX6_keep 42 = .ok (.aload_n 0, 1) := by decide +kernel
theorem dX6_keep_43 : decode cX6_keep 43 = .ok (.getfield 40, 3) := by decide +kernel
theorem dX6_keep_46 : decode cX6_keep 46 = .ok (.iload_n 2, 1) := by decide +kernel
theorem dX6_keep_47 : decode cX6_keep 47 = .ok (.iaload, 1) := by decide +kernel
theorem dX6_keep_48 : decode cX6_keep 48 = .ok (.iastore, 1) := by decide +kernel
theorem dX6_keep_49 : decode cX6_keep 49 = .ok (.iinc 2 1, 3) := by decide +kernel
theorem dX6_keep_52 : decode cX6_keep 52 = .ok (.goto (-26), 3) := by decide +kernel
theorem dX6_keep_55 : decode cX6_keep 55 = .ok (.aload_n 0, 1) := by decide +kernel
theorem dX6_keep_56 : decode cX6_keep 56 = .ok (.getfield 40, 3) := by decide +kernel
theorem dX6_keep_59 : decode cX6_keep 59 = .ok (.bipush 19, 2) := by decide +kernel
theorem dX6_keep_61 : decode cX6_keep 61 = .ok (.iaload, 1) := by decide +kernel
theorem dX6_keep_62 : decode cX6_keep 62 = .ok (.ireturn, 1) := by decide +kernel
theorem dX6_again_0 : decode cX6_again 0 = .ok (.aload_n 0, 1) := by decide +kernel
theorem dX6_again_1 : decode cX6_again 1 = .ok (.iconst 0, 1) := by decide +kernel
theorem dX6_again_2 : decode cX6_again 2 = .ok (.putfield 68, 3) := by decide +kernel
theorem dX6_again_5 : decode cX6_again 5 = .ok (.iload_n 1, 1) := by decide +kernel
theorem dX6_again_6 : decode cX6_again 6 = .ok (.i2l, 1) := by decide +kernel
theorem dX6_again_7 : decode cX6_again 7 = .ok (.lconst 0, 1) := by decide +kernel
theorem dX6_again_8 : decode cX6_again 8 = .ok (.lconst 1, 1) := by decide +kernel
theorem dX6_again_9 : decode cX6_again 9 = .ok (.invokestatic 75, 3) := by decide +kernel
theorem dX6_again_12 : decode cX6_again 12 = .ok (.ifCond .ne 5, 3) := by decide +kernel
theorem dX6_again_15 : decode cX6_again 15 = .ok (.iconst (-1), 1) := by decide +kernel
theorem dX6_again_16 : decode cX6_again 16 = .ok (.ireturn, 1) := by decide +kernel
theorem dX6_again_17 : decode cX6_again 17 = .ok (.aload_n 0, 1) := by decide +kernel
theorem dX6_again_18 : decode cX6_again 18 = .ok (.getfield 52, 3) := by decide +kernel
theorem dX6_again_21 : decode cX6_again 21 = .ok (.iload_n 1, 1) := by decide +kernel
theorem dX6_again_22 : decode cX6_again 22 = .ok (.baload, 1) := by decide +kernel
theorem dX6_again_23 : decode cX6_again 23 = .ok (.ifCond .ne 6, 3) := by decide +kernel
theorem dX6_again_26 : decode cX6_again 26 = .ok (.bipush (-3), 2) := by decide +kernel
theorem dX6_again_28 : decode cX6_again 28 = .ok (.ireturn, 1) := by decide +kernel
theorem dX6_again_29 : decode cX6_again 29 = .ok (.iconst 0, 1) := by decide +kernel
theorem dX6_again_30 : decode cX6_again 30 = .ok (.istore_n 2, 1) := by decide +kernel
theorem dX6_again_31 : decode cX6_again 31 = .ok (.iload_n 2, 1) := by decide +kernel
theorem dX6_again_32 : decode cX6_again 32 = .ok (.bipush 20, 2) := by decide +kernel
theorem dX6_again_34 : decode cX6_again 34 = .ok (.if_icmp .ge 26, 3) := by decide +kernel
theorem dX6_again_37 : decode cX6_again 37 = .ok (.aload_n 0, 1) := by decide +kernel
theorem dX6_again_38 : decode cX6_again 38 = .ok (.getfield 40, 3) := by decide +kernel
theorem dX6_again_41 : decode cX6_again 41 = .ok (.iload_n 2, 1) := by decide +kernel
theorem dX6_again_42 : decode cX6_again 42 = .ok (.aload_n 0, 1) := by decide +kernel
theorem dX6_again_43 : decode cX6_again 43 = .ok (.getfield 49, 3) := by decide +kernel
theorem dX6_again_46 : decode cX6_again 46 = .ok (.bipush 20, 2) := by decide +kernel
theorem dX6_again_48 : decode cX6_again 48 = .ok (.iload_n 1, 1) := by decide +kernel
theorem dX6_again_49 : decode cX6_again 49 = .ok (.imul, 1) := by decide +kernel
theorem dX6_again_50 : decode cX6_again 50 = .ok (.iload_n 2, 1) := by decide +kernel
theorem dX6_again_51 : decode cX6_again 51 = .ok (.iadd, 1) := by decide +kernel
theorem dX6_again_52 : decode cX6_again 52 = .ok (.iaload, 1) := by decide +kernel
theorem dX6_again_53 : decode cX6_again 53 = .ok (.iastore, 1) := by decide +kernel
theorem dX6_again_54 : decode cX6_again 54 = .ok (.iinc 2 1, 3) := by decide +kernel
theorem dX6_again_57 : decode cX6_again 57 = .ok (.goto (-26), 3) := by decide +kernel
theorem dX6_again_60 : decode cX6_again 60 = .ok (.aload_n 0, 1) := by decide +kernel
theorem dX6_again_61 : decode cX6_again 61 = .ok (.iconst 0, 1) := by decide +kernel
theorem dX6_again_62 : decode cX6_again 62 = .ok (.putfield 126, 3) := by decide +kernel
theorem dX6_again_65 : decode cX6_again 65 = .ok (.aload_n 0, 1) := by decide +kernel
theorem dX6_again_66 : decode cX6_again 66 = .ok (.getfield 40, 3) := by decide +kernel
theorem dX6_again_69 : decode cX6_again 69 = .ok (.bipush 19, 2) := by decide +kernel
theorem dX6_again_71 : decode cX6_again 71 = .ok (.iaload, 1) := by decide +kernel
theorem dX6_again_72 : decode cX6_again 72 = .ok (.ireturn, 1) := by decide +kernel
theorem dJ6_bitCount_0f7a4_0 : decode cJ6_bitCount_0f7a4 0 = .ok (.iload_n 0, 1) := by decide +kernel
theorem dJ6_bitCount_0f7a4_1 : decode cJ6_bitCount_0f7a4 1 = .ok (.iload_n 0, 1) := by decide +kernel
theorem dJ6_bitCount_0f7a4_2 : decode cJ6_bitCount_0f7a4 2 = .ok (.iconst 1, 1) := by decide +kernel
theorem dJ6_bitCount_0f7a4_3 : decode cJ6_bitCount_0f7a4 3 = .ok (.iushr, 1) := by decide +kernel
theorem dJ6_bitCount_0f7a4_4 : decode cJ6_bitCount_0f7a4 4 = .ok (.ldc_w 265, 3) := by decide +kernel
theorem dJ6_bitCount_0f7a4_7 : decode cJ6_bitCount_0f7a4 7 = .ok (.iand, 1) := by decide +kernel
theorem dJ6_bitCount_0f7a4_8 : decode cJ6_bitCount_0f7a4 8 = .ok (.isub, 1) := by decide +kernel
theorem dJ6_bitCount_0f7a4_9 : decode cJ6_bitCount_0f7a4 9 = .ok (.istore_n 0, 1) := by decide +kernel
theorem dJ6_bitCount_0f7a4_10 : decode cJ6_bitCount_0f7a4 10 = .ok (.iload_n 0, 1) := by decide +kernel
theorem dJ6_bitCount_0f7a4_11 : decode cJ6_bitCount_0f7a4 11 = .ok (.ldc_w 266, 3) := by decide +kernel
theorem dJ6_bitCount_0f7a4_14 : decode cJ6_bitCount_0f7a4 14 = .ok (.iand, 1) := by decide +kernel
theorem dJ6_bitCount_0f7a4_15 : decode cJ6_bitCount_0f7a4 15 = .ok (.iload_n 0, 1) := by decide +kernel
theorem dJ6_bitCount_0f7a4_16 : decode cJ6_bitCount_0f7a4 16 = .ok (.iconst 2, 1) := by decide +kernel
theorem dJ6_bitCount_0f7a4_17 : decode cJ6_bitCount_0f7a4 17 = .ok (.iushr, 1) := by decide +kernel
theorem dJ6_bitCount_0f7a4_18 : decode cJ6_bitCount_0f7a4 18 = .ok (.ldc_w 266, 3) := by decide +kernel
theorem dJ6_bitCount_0f7a4_21 : decode cJ6_bitCount_0f7a4 21 = .ok (.iand, 1) := by decide +kernel
theorem dJ6_bitCount_0f7a4_22 : decode cJ6_bitCount_0f7a4 22 = .ok (.iadd, 1) := by decide +kernel
theorem dJ6_bitCount_0f7a4_23 : decode cJ6_bitCount_0f7a4 23 = .ok (.istore_n 0, 1) := by decide +kernel
theorem dJ6_bitCount_0f7a4_24 : decode cJ6_bitCount_0f7a4 24 = .ok (.iload_n 0, 1) := by decide +kernel
theorem dJ6_bitCount_0f7a4_25 : decode cJ6_bitCount_0f7a4 25 = .ok (.iload_n 0, 1) := by decide +kernel
theorem dJ6_bitCount_0f7a4_26 : decode cJ6_bitCount_0f7a4 26 = .ok (.iconst 4, 1) := by decide +kernel
theorem dJ6_bitCount_0f7a4_27 : decode cJ6_bitCount_0f7a4 27 = .ok (.iushr, 1) := by decide +kernel
theorem dJ6_bitCount_0f7a4_28 : decode cJ6_bitCount_0f7a4 28 = .ok (.iadd, 1) := by decide +kernel
theorem dJ6_bitCount_0f7a4_29 : decode cJ6_bitCount_0f7a4 29 = .ok (.ldc_w 267, 3) := by decide +kernel
theorem dJ6_bitCount_0f7a4_32 : decode cJ6_bitCount_0f7a4 32 = .ok (.iand, 1) := by decide +kernel
theorem dJ6_bitCount_0f7a4_33 : decode cJ6_bitCount_0f7a4 33 = .ok (.istore_n 0, 1) := by decide +kernel
theorem dJ6_bitCount_0f7a4_34 : decode cJ6_bitCount_0f7a4 34 = .ok (.iload_n 0, 1) := by decide +kernel
theorem dJ6_bitCount_0f7a4_35 : decode cJ6_bitCount_0f7a4 35 = .ok (.iload_n 0, 1) := by decide +kernel
theorem dJ6_bitCount_0f7a4_36 : decode cJ6_bitCount_0f7a4 36 = .ok (.bipush 8, 2) := by decide +kernel
theorem dJ6_bitCount_0f7a4_38 : decode cJ6_bitCount_0f7a4 38 = .ok (.iushr, 1) := by decide +kernel
theorem dJ6_bitCount_0f7a4_39 : decode cJ6_bitCount_0f7a4 39 = .ok (.iadd, 1) := by decide +kernel
theorem dJ6_bitCount_0f7a4_40 : decode cJ6_bitCount_0f7a4 40 = .ok (.istore_n 0, 1) := by decide +kernel
theorem dJ6_bitCount_0f7a4_41 : decode cJ6_bitCount_0f7a4 41 = .ok (.iload_n 0, 1) := by decide +kernel
theorem dJ6_bitCount_0f7a4_42 : decode cJ6_bitCount_0f7a4 42 = .ok (.iload_n 0, 1) := by decide +kernel
theorem dJ6_bitCount_0f7a4_43 : decode cJ6_bitCount_0f7a4 43 = .ok (.bipush 16, 2) := by decide +kernel
theorem dJ6_bitCount_0f7a4_45 : decode cJ6_bitCount_0f7a4 45 = .ok (.iushr, 1) := by decide +kernel
theorem dJ6_bitCount_0f7a4_46 : decode cJ6_bitCount_0f7a4 46 = .ok (.iadd, 1) := by decide +kernel
theorem dJ6_bitCount_0f7a4_47 : decode cJ6_bitCount_0f7a4 47 = .ok (.istore_n 0, 1) := by decide +kernel
theorem dJ6_bitCount_0f7a4_48 : decode cJ6_bitCount_0f7a4 48 = .ok (.iload_n 0, 1) := by decide +kernel
theorem dJ6_bitCount_0f7a4_49 : decode cJ6_bitCount_0f7a4 49 = .ok (.bipush 63, 2) := by decide +kernel
theorem dJ6_bitCount_0f7a4_51 : decode cJ6_bitCount_0f7a4 51 = .ok (.iand, 1) := by decide +kernel
theorem dJ6_bitCount_0f7a4_52 : decode cJ6_bitCount_0f7a4 52 = .ok (.ireturn, 1) := by decide +kernel
