theorem dX6_shop_67 : decode cX6_shop 67 = .ok (.iconst 4, 1) := by decide +kernel
theorem dX6_shop_68 : decode cX6_shop 68 = .ok (.aload_n 0, 1) := by decide +kernel
theorem dX6_shop_69 : decode cX6_shop 69 = .ok (.getfield 116, 3) := by decide +kernel
theorem dX6_shop_72 : decode cX6_shop 72 = .ok (.imul, 1) := by decide +kernel
theorem dX6_shop_73 : decode cX6_shop 73 = .ok (.iastore, 1) := by decide +kernel
theorem dX6_shop_74 : decode cX6_shop 74 = .ok (.iconst 0, 1) := by decide +kernel
theorem dX6_shop_75 : decode cX6_shop 75 = .ok (.istore_n 1, 1) := by decide +kernel
theorem dX6_shop_76 : decode cX6_shop 76 = .ok (.iload_n 1, 1) := by decide +kernel
theorem dX6_shop_77 : decode cX6_shop 77 = .ok (.aload_n 0, 1) := by decide +kernel
theorem dX6_shop_78 : decode cX6_shop 78 = .ok (.getfield 72, 3) := by decide +kernel
theorem dX6_shop_81 : decode cX6_shop 81 = .ok (.if_icmp .ge 23, 3) := by decide +kernel
theorem dX6_shop_84 : decode cX6_shop 84 = .ok (.aload_n 0, 1) := by decide +kernel
theorem dX6_shop_85 : decode cX6_shop 85 = .ok (.getfield 40, 3) := by decide +kernel
theorem dX6_shop_88 : decode cX6_shop 88 = .ok (.iconst 1, 1) := by decide +kernel
theorem dX6_shop_89 : decode cX6_shop 89 = .ok (.iload_n 1, 1) := by decide +kernel
theorem dX6_shop_90 : decode cX6_shop 90 = .ok (.iadd, 1) := by decide +kernel
theorem dX6_shop_91 : decode cX6_shop 91 = .ok (.aload_n 0, 1) := by decide +kernel
theorem dX6_shop_92 : decode cX6_shop 92 = .ok (.getfield 31, 3) := by decide +kernel
theorem dX6_shop_95 : decode cX6_shop 95 = .ok (.iload_n 1, 1) := by decide +kernel
theorem dX6_shop_96 : decode cX6_shop 96 = .ok (.iaload, 1) := by decide +kernel
theorem dX6_shop_97 : decode cX6_shop 97 = .ok (.iastore, 1) := by decide +kernel
theorem dX6_shop_98 : decode cX6_shop 98 = .ok (.iinc 1 1, 3) := by decide +kernel
theorem dX6_shop_101 : decode cX6_shop 101 = .ok (.goto (-25), 3) := by decide +kernel
theorem dX6_shop_104 : decode cX6_shop 104 = .ok (.iconst 0, 1) := by decide +kernel
theorem dX6_shop_105 : decode cX6_shop 105 = .ok (.istore_n 1, 1) := by decide +kernel
theorem dX6_shop_106 : decode cX6_shop 106 = .ok (.iload_n 1, 1) := by decide +kernel
theorem dX6_shop_107 : decode cX6_shop 107 = .ok (.aload_n 0, 1) := by decide +kernel
theorem dX6_shop_108 : decode cX6_shop 108 = .ok (.getfield 79, 3) := by decide +kernel
theorem dX6_shop_111 : decode cX6_shop 111 = .ok (.if_icmp .ge 55, 3) := by decide +kernel
theorem dX6_shop_114 : decode cX6_shop 114 = .ok (.aload_n 0, 1) := by decide +kernel
theorem dX6_shop_115 : decode cX6_shop 115 = .ok (.getfield 13, 3) := by decide +kernel
theorem dX6_shop_118 : decode cX6_shop 118 = .ok (.iload_n 1, 1) := by decide +kernel
theorem dX6_shop_119 : decode cX6_shop 119 = .ok (.aload_n 0, 1) := by decide +kernel
theorem dX6_shop_120 : decode cX6_shop 120 = .ok (.getfield 34, 3) := by decide +kernel
theorem dX6_shop_123 : decode cX6_shop 123 = .ok (.iconst 3, 1) := by decide +kernel
theorem dX6_shop_124 : decode cX6_shop 124 = .ok (.iload_n 1, 1) := by decide +kernel
theorem dX6_shop_125 : decode cX6_shop 125 = .ok (.imul, 1) := by decide +kernel
theorem dX6_shop_126 : decode cX6_shop 126 = .ok (.iaload, 1) := by decide +kernel
theorem dX6_shop_127 : decode cX6_shop 127 = .ok (.iastore, 1) := by decide +kernel
theorem dX6_shop_128 : decode cX6_shop 128 = .ok (.aload_n 0, 1) := by decide +kernel
theorem dX6_shop_129 : decode cX6_shop 129 = .ok (.getfield 16, 3) := by decide +kernel
theorem dX6_shop_132 : decode cX6_shop 132 = .ok (.iload_n 1, 1) := by decide +kernel
theorem dX6_shop_133 : decode cX6_shop 133 = .ok (.aload_n 0, 1) := by decide +kernel
theorem dX6_shop_134 : decode cX6_shop 134 = .ok (.getfield 34, 3) := by decide +kernel
theorem dX6_shop_137 : decode cX6_shop 137 = .ok (.iconst 3, 1) := by decide +kernel
theorem dX6_shop_138 : decode cX6_shop 138 = .ok (.iload_n 1, 1) := by decide +kernel
theorem dX6_shop_139 : decode cX6_shop 139 = .ok (.imul, 1) := by decide +kernel
theorem dX6_shop_140 : decode cX6_shop 140 = .ok (.iconst 1, 1) := by decide +kernel
theorem dX6_shop_141 : decode cX6_shop 141 = .ok (.iadd, 1) := by decide +kernel
theorem dX6_shop_142 : decode cX6_shop 142 = .ok (.iaload, 1) := by decide +kernel
theorem dX6_shop_143 : decode cX6_shop 143 = .ok (.iastore, 1) := by decide +kernel
theorem dX6_shop_144 : decode cX6_shop 144 = .ok (.aload_n 0, 1) := by decide +kernel
theorem dX6_shop_145 : decode cX6_shop 145 = .ok (.getfield 19, 3) := by decide +kernel
theorem dX6_shop_148 : decode cX6_shop 148 = .ok (.iload_n 1, 1) := by decide +kernel
theorem dX6_shop_149 : decode cX6_shop 149 = .ok (.aload_n 0, 1) := by decide +kernel
theorem dX6_shop_150 : decode cX6_shop 150 = .ok (.getfield 34, 3) := by decide +kernel
theorem dX6_shop_153 : decode cX6_shop 153 = .ok (.iconst 3, 1) := by decide +kernel
theorem dX6_shop_154 : decode cX6_shop 154 = .ok (.iload_n 1, 1) := by decide +kernel
theorem dX6_shop_155 : decode cX6_shop 155 = .ok (.imul, 1) := by decide +kernel
theorem dX6_shop_156 : decode cX6_shop 156 = .ok (.iconst 2, 1) := by decide +kernel
theorem dX6_shop_157 : decode cX6_shop 157 = .ok (.iadd, 1) := by decide +kernel
theorem dX6_shop_158 : decode cX6_shop 158 = .ok (.iaload, 1) := by decide +kernel
theorem dX6_shop_159 : decode cX6_shop 159 = .ok (.iastore, 1) := by decide +kernel
theorem dX6_shop_160 : decode cX6_shop 160 = .ok (.iinc 1 1, 3) := by decide +kernel
theorem dX6_shop_163 : decode cX6_shop 163 = .ok (.goto (-57), 3) := by decide +kernel
theorem dX6_shop_166 : decode cX6_shop 166 = .ok (.iconst 0, 1) := by decide +kernel
theorem dX6_shop_167 : decode cX6_shop 167 = .ok (.istore_n 1, 1) := by decide +kernel
theorem dX6_shop_168 : decode cX6_shop 168 = .ok (.iload_n 1, 1) := by decide +kernel
theorem dX6_shop_169 : decode cX6_shop 169 = .ok (.aload_n 0, 1) := by decide +kernel
theorem dX6_shop_170 : decode cX6_shop 170 = .ok (.getfield 82, 3) := by decide +kernel
theorem dX6_shop_173 : decode cX6_shop 173 = .ok (.if_icmp .ge 55, 3) := by decide +kernel
theorem dX6_shop_176 : decode cX6_shop 176 = .ok (.aload_n 0, 1) := by decide +kernel
theorem dX6_shop_177 : decode cX6_shop 177 = .ok (.getfield 22, 3) := by decide +kernel
theorem dX6_shop_180 : decode cX6_shop 180 = .ok (.iload_n 1, 1) := by decide +kernel
theorem dX6_shop_181 : decode cX6_shop 181 = .ok (.aload_n 0, 1) := by decide +kernel
theorem dX6_shop_182 : decode cX6_shop 182 = .ok (.getfield 37, 3) := by decide +kernel
theorem dX6_shop_185 : decode cX6_shop 185 = .ok (.iconst 3, 1) := by decide +kernel
theorem dX6_shop_186 : decode cX6_shop 186 = .ok (.iload_n 1, 1) := by decide +kernel
theorem dX6_shop_187 : decode cX6_shop 187 = .ok (.imul, 1) := by decide +kernel
theorem dX6_shop_188 : decode cX6_shop 188 = .ok (.iaload, 1) := by decide +kernel
theorem dX6_shop_189 : decode cX6_shop 189 = .ok (.iastore, 1) := by decide +kernel
theorem dX6_shop_190 : decode cX6_shop 190 = .ok (.aload_n 0, 1) := by decide +kernel
theorem dX6_shop_191 : decode cX6_shop 191 = .ok (.getfield 25, 3) := by decide +kernel
theorem dX6_shop_194 : decode cX6_shop 194 = .ok (.iload_n 1, 1) := by decide +kernel
theorem dX6_shop_195 : decode cX6_shop 195 = .ok (.aload_n 0, 1) := by decide +kernel
theorem dX6_shop_196 : decode cX6_shop 196 = .ok (.getfield 37, 3) := by decide +kernel
theorem dX6_shop_199 : decode cX6_shop 199 = .ok (.iconst 3, 1) := by decide +kernel
theorem dX6_shop_200 : decode cX6_shop 200 = .ok (.iload_n 1, 1) := by decide +kernel
theorem dX6_shop_201 : decode cX6_shop 201 = .ok (.imul, 1) := by decide +kernel
theorem dX6_shop_202 : decode cX6_shop 202 = .ok (.iconst 1, 1) := by decide +kernel
theorem dX6_shop_203 : decode cX6_shop 203 = .ok (.iadd, 1) := by decide +kernel
theorem dX6_shop_204 : decode cX6_shop 204 = .ok (.iaload, 1) := by decide +kernel
theorem dX6_shop_205 : decode cX6_shop 205 = .ok (.iastore, 1) := by decide +kernel
theorem dX6_shop_206 : decode cX6_shop 206 = .ok (.aload_n 0, 1) := by decide +kernel
theorem dX6_shop_207 : decode cX6_shop 207 = .ok (.getfield 28, 3) := by decide +kernel
theorem dX6_shop_210 : decode cX6_shop 210 = .ok (.iload_n 1, 1) := by decide +kernel
theorem dX6_shop_211 : decode cX6_shop 211 = .ok (.aload_n 0, 1) := by decide +kernel
theorem dX6_shop_212 : decode cX6_shop 212 = .ok (.getfield 37, 3) := by decide +kernel
theorem dX6_shop_215 : decode cX6_shop 215 = .ok (.iconst 3, 1) := by decide +kernel
theorem dX6_shop_216 : decode cX6_shop 216 = .ok (.iload_n 1, 1) := by decide +kernel
theorem dX6_shop_217 : decode cX6_shop 217 = .ok (.imul, 1) := by decide +kernel
theorem dX6_shop_218 : decode cX6_shop 218 = .ok (.iconst 2, 1) := by decide +kernel
theorem dX6_shop_219 : decode cX6_shop 219 = .ok (.iadd, 1) := by decide +kernel
theorem dX6_shop_220 : decode cX6_shop 220 = .ok (.iaload, 1) := by decide +kernel
theorem dX6_shop_221 : decode cX6_shop 221 = .ok (.iastore, 1) := by decide +kernel
theorem dX6_shop_222 : decode cX6_shop 222 = .ok (.iinc 1 1, 3) := by decide +kernel
theorem dX6_shop_225 : decode cX6_shop 225 = .ok (.goto (-57), 3) := by decide +kernel
theorem dX6_shop_228 : decode cX6_shop 228 = .ok (.aload_n 0, 1) := by decide +kernel
theorem dX6_shop_229 : decode cX6_shop 229 = .ok (.iconst 0, 1) := by decide +kernel
theorem dX6_shop_230 : decode cX6_shop 230 = .ok (.putfield 126, 3) := by decide +kernel
theorem dX6_shop_233 : decode cX6_shop 233 = .ok (.aload_n 0, 1) := by decide +kernel
theorem dX6_shop_234 : decode cX6_shop 234 = .ok (.getfield 52, 3) := by decide +kernel
theorem dX6_shop_237 : decode cX6_shop 237 = .ok (.iconst 0, 1) := by decide +kernel
theorem dX6_shop_238 : decode cX6_shop 238 = .ok (.iconst 0, 1) := by decide +kernel
theorem dX6_shop_239 : decode cX6_shop 239 = .ok (.bastore, 1) := by decide +kernel
theorem dX6_shop_240 : decode cX6_shop 240 = .ok (.aload_n 0, 1) := by decide +kernel
theorem dX6_shop_241 : decode cX6_shop 241 = .ok (.getfield 52, 3) := by decide +kernel
theorem dX6_shop_244 : decode cX6_shop 244 = .ok (.iconst 1, 1) := by decide +kernel
theorem dX6_shop_245 : decode cX6_shop 245 = .ok (.iconst 0, 1) := by decide +kernel
theorem dX6_shop_246 : decode cX6_shop 246 = .ok (.bastore, 1) := by decide +kernel
theorem dX6_shop_247 : decode cX6_shop 247 = .ok (.bipush 100, 2) := by decide +kernel
theorem dX6_shop_249 : decode cX6_shop 249 = .ok (.aload_n 0, 1) := by decide +kernel
theorem dX6_shop_250 : decode cX6_shop 250 = .ok (.getfield 72, 3) := by decide +kernel
theorem dX6_shop_253 : decode cX6_shop 253 = .ok (.imul, 1) := by decide +kernel
theorem dX6_shop_254 : decode cX6_shop 254 = .ok (.bipush 10, 2) := by decide +kernel
theorem dX6_shop_256 : decode cX6_shop 256 = .ok (.aload_n 0, 1) := by decide +kernel
theorem dX6_shop_257 : decode cX6_shop 257 = .ok (.getfield 79, 3) := by decide +kernel
theorem dX6_shop_260 : decode cX6_shop 260 = .ok (.imul, 1) := by decide +kernel
theorem dX6_shop_261 : decode cX6_shop 261 = .ok (.iadd, 1) := by decide +kernel
theorem dX6_shop_262 : decode cX6_shop 262 = .ok (.aload_n 0, 1) := by decide +kernel
theorem dX6_shop_263 : decode cX6_shop 263 = .ok (.getfield 82, 3) := by decide +kernel
theorem dX6_shop_266 : decode cX6_shop 266 = .ok (.iadd, 1) := by decide +kernel
theorem dX6_shop_267 : decode cX6_shop 267 = .ok (.ireturn, 1) := by decide +kernel
theorem dX6_dueBy_0 : decode cX6_dueBy 0 = .ok (.iload_n 1, 1) := by decide +kernel
theorem dX6_dueBy_1 : decode cX6_dueBy 1 = .ok (.iconst 3, 1) := by decide +kernel
theorem dX6_dueBy_2 : decode cX6_dueBy 2 = .ok (.if_icmp .eq 17, 3) := by decide +kernel
theorem dX6_dueBy_5 : decode cX6_dueBy 5 = .ok (.iload_n 1, 1) := by decide +kernel
theorem dX6_dueBy_6 : decode cX6_dueBy 6 = .ok (.iconst 2, 1) := by decide +kernel
theorem dX6_dueBy_7 : decode cX6_dueBy 7 = .ok (.if_icmp .ne 14, 3) := by decide +kernel
theorem dX6_dueBy_10 : decode cX6_dueBy 10 = .ok (.iload_n 3, 1) := by decide +kernel
theorem dX6_dueBy_11 : decode cX6_dueBy 11 = .ok (.bipush 7, 2) := by decide +kernel
theorem dX6_dueBy_13 : decode cX6_dueBy 13 = .ok (.irem, 1) := by decide +kernel
theorem dX6_dueBy_14 : decode cX6_dueBy 14 = .ok (.bipush 6, 2) := by decide +kernel
theorem dX6_dueBy_16 : decode cX6_dueBy 16 = .ok (.if_icmp .ne 5, 3) := by decide +kernel
theorem dX6_dueBy_19 : decode cX6_dueBy 19 = .ok (.iload_n 0, 1) := by decide +kernel
theorem dX6_dueBy_20 : decode cX6_dueBy 20 = .ok (.ireturn, 1) := by decide +kernel
theorem dX6_dueBy_21 : decode cX6_dueBy 21 = .ok (.iload_n 1, 1) := by decide +kernel
theorem dX6_dueBy_22 : decode cX6_dueBy 22 = .ok (.iconst 1, 1) := by decide +kernel
theorem dX6_dueBy_23 : decode cX6_dueBy 23 = .ok (.if_icmp .ne 11, 3) := by decide +kernel
theorem dX6_dueBy_26 : decode cX6_dueBy 26 = .ok (.iload_n 0, 1) := by decide +kernel
theorem dX6_dueBy_27 : decode cX6_dueBy 27 = .ok (.iconst 2, 1) := by decide +kernel
theorem dX6_dueBy_28 : decode cX6_dueBy 28 = .ok (.iload_n 2, 1) := by decide +kernel
theorem dX6_dueBy_29 : decode cX6_dueBy 29 = .ok (.imul, 1) := by decide +kernel
theorem dX6_dueBy_30 : decode cX6_dueBy 30 = .ok (.iadd, 1) := by decide +kernel
theorem dX6_dueBy_31 : decode cX6_dueBy 31 = .ok (.goto 6, 3) := by decide +kernel
theorem dX6_dueBy_34 : decode cX6_dueBy 34 = .ok (.iload_n 0, 1) := by decide +kernel
theorem dX6_dueBy_35 : decode cX6_dueBy 35 = .ok (.iload_n 2, 1) := by decide +kernel
theorem dX6_dueBy_36 : decode cX6_dueBy 36 = .ok (.iadd, 1) := by decide +kernel
theorem dX6_dueBy_37 : decode cX6_dueBy 37 = .ok (.ireturn, 1) := by decide +kernel
theorem dX6_dueOf_0 : decode cX6_dueOf 0 = .ok (.aload_n 1, 1) := by decide +kernel
theorem dX6_dueOf_1 : decode cX6_dueOf 1 = .ok (.iconst 4, 1) := by decide +kernel
theorem dX6_dueOf_2 : decode cX6_dueOf 2 = .ok (.iload_n 2, 1) := by decide +kernel
theorem dX6_dueOf_3 : decode cX6_dueOf 3 = .ok (.iadd, 1) := by decide +kernel
theorem dX6_dueOf_4 : decode cX6_dueOf 4 = .ok (.iaload, 1) := by decide +kernel
theorem dX6_dueOf_5 : decode cX6_dueOf 5 = .ok (.iconst 1, 1) := by decide +kernel
theorem dX6_dueOf_6 : decode cX6_dueOf 6 = .ok (.if_icmp .ne 36, 3) := by decide +kernel
theorem dX6_dueOf_9 : decode cX6_dueOf 9 = .ok (.aload_n 0, 1) := by decide +kernel
theorem dX6_dueOf_10 : decode cX6_dueOf 10 = .ok (.getfield 16, 3) := by decide +kernel
theorem dX6_dueOf_13 : decode cX6_dueOf 13 = .ok (.iload_n 2, 1) := by decide +kernel
theorem dX6_dueOf_14 : decode cX6_dueOf 14 = .ok (.iaload, 1) := by decide +kernel
theorem dX6_dueOf_15 : decode cX6_dueOf 15 = .ok (.aload_n 0, 1) := by decide +kernel
theorem dX6_dueOf_16 : decode cX6_dueOf 16 = .ok (.getfield 19, 3) := by decide +kernel
theorem dX6_dueOf_19 : decode cX6_dueOf 19 = .ok (.iload_n 2, 1) := by decide +kernel
theorem dX6_dueOf_20 : decode cX6_dueOf 20 = .ok (.iaload, 1) := by decide +kernel
theorem dX6_dueOf_21 : decode cX6_dueOf 21 = .ok (.aload_n 1, 1) := by decide +kernel
theorem dX6_dueOf_22 : decode cX6_dueOf 22 = .ok (.bipush 19, 2) := by decide +kernel
theorem dX6_dueOf_24 : decode cX6_dueOf 24 = .ok (.iaload, 1) := by decide +kernel
theorem dX6_dueOf_25 : decode cX6_dueOf 25 = .ok (.aload_n 1, 1) := by decide +kernel
theorem dX6_dueOf_26 : decode cX6_dueOf 26 = .ok (.bipush 9, 2) := by decide +kernel
theorem dX6_dueOf_28 : decode cX6_dueOf 28 = .ok (.iload_n 2, 1) := by decide +kernel
theorem dX6_dueOf_29 : decode cX6_dueOf 29 = .ok (.iadd, 1) := by decide +kernel
theorem dX6_dueOf_30 : decode cX6_dueOf 30 = .ok (.iaload, 1) := by decide +kernel
theorem dX6_dueOf_31 : decode cX6_dueOf 31 = .ok (.isub, 1) := by decide +kernel
theorem dX6_dueOf_32 : decode cX6_dueOf 32 = .ok (.aload_n 1, 1) := by decide +kernel
theorem dX6_dueOf_33 : decode cX6_dueOf 33 = .ok (.bipush 19, 2) := by decide +kernel
theorem dX6_dueOf_35 : decode cX6_dueOf 35 = .ok (.iaload, 1) := by decide +kernel
theorem dX6_dueOf_36 : decode cX6_dueOf 36 = .ok (.invokestatic 129, 3) := by decide +kernel
theorem dX6_dueOf_39 : decode cX6_dueOf 39 = .ok (.goto 4, 3) := by decide +kernel
theorem dX6_dueOf_42 : decode cX6_dueOf 42 = .ok (.iconst 0, 1) := by decide +kernel
theorem dX6_dueOf_43 : decode cX6_dueOf 43 = .ok (.ireturn, 1) := by decide +kernel
theorem dX6_thatAre_0 : decode cX6_thatAre 0 = .ok (.iconst 0, 1) := by decide +kernel
theorem dX6_thatAre_1 : decode cX6_thatAre 1 = .ok (.istore_n 3, 1) := by decide +kernel
theorem dX6_thatAre_2 : decode cX6_thatAre 2 = .ok (.iconst 0, 1) := by decide +kernel
theorem dX6_thatAre_3 : decode cX6_thatAre 3 = .ok (.istore 4, 2) := by decide +kernel
theorem dX6_thatAre_5 : decode cX6_thatAre 5 = .ok (.iload 4, 2) := by decide +kernel
theorem dX6_thatAre_7 : decode cX6_thatAre 7 = .ok (.aload_n 0, 1) := by decide +kernel
theorem dX6_thatAre_8 : decode cX6_thatAre 8 = .ok (.getfield 79, 3) := by decide +kernel
theorem dX6_thatAre_11 : decode cX6_thatAre 11 = .ok (.if_icmp .ge 30, 3) := by decide +kernel
theorem dX6_thatAre_14 : decode cX6_thatAre 14 = .ok (.iload_n 3, 1) := by decide +kernel
theorem dX6_thatAre_15 : decode cX6_thatAre 15 = .ok (.aload_n 1, 1) := by decide +kernel
theorem dX6_thatAre_16 : decode cX6_thatAre 16 = .ok (.iconst 4, 1) := by decide +kernel
theorem dX6_thatAre_17 : decode cX6_thatAre 17 = .ok (.iload 4, 2) := by decide +kernel
theorem dX6_thatAre_19 : decode cX6_thatAre 19 = .ok (.iadd, 1) := by decide +kernel
theorem dX6_thatAre_20 : decode cX6_thatAre 20 = .ok (.iaload, 1) := by decide +kernel
theorem dX6_thatAre_21 : decode cX6_thatAre 21 = .ok (.iload_n 2, 1) := by decide +kernel
theorem dX6_thatAre_22 : decode cX6_thatAre 22 = .ok (.if_icmp .ne 10, 3) := by decide +kernel
theorem dX6_thatAre_25 : decode cX6_thatAre 25 = .ok (.iconst 1, 1) := by decide +kernel
theorem dX6_thatAre_26 : decode cX6_thatAre 26 = .ok (.iload 4, 2) := by decide +kernel
theorem dX6_thatAre_28 : decode cX6_thatAre 28 = .ok (.ishl, 1) := by decide +kernel
theorem dX6_thatAre_29 : decode cX6_thatAre 29 = .ok (.goto 4, 3) := by decide +kernel
theorem dX6_thatAre_32 : decode cX6_thatAre 32 = .ok (.iconst 0, 1) := by decide +kernel
theorem dX6_thatAre_33 : decode cX6_thatAre 33 = .ok (.ior, 1) := by decide +kernel
theorem dX6_thatAre_34 : decode cX6_thatAre 34 = .ok (.istore_n 3, 1) := by decide +kernel
theorem dX6_thatAre_35 : decode cX6_thatAre 35 = .ok (.iinc 4 1, 3) := by decide +kernel
theorem dX6_thatAre_38 : decode cX6_thatAre 38 = .ok (.goto (-33), 3) := by decide +kernel
theorem dX6_thatAre_41 : decode cX6_thatAre 41 = .ok (.iload_n 3, 1) := by decide +kernel
theorem dX6_thatAre_42 : decode cX6_thatAre 42 = .ok (.ireturn, 1) := by decide +kernel
theorem dX6_deedsThat_0 : decode cX6_deedsThat 0 = .ok (.iconst 0, 1) := by decide +kernel
theorem dX6_deedsThat_1 : decode cX6_deedsThat 1 = .ok (.istore_n 3, 1) := by decide +kernel
theorem dX6_deedsThat_2 : decode cX6_deedsThat 2 = .ok (.iconst 0, 1) := by decide +kernel
theorem dX6_deedsThat_3 : decode cX6_deedsThat 3 = .ok (.istore 4, 2) := by decide +kernel
theorem dX6_deedsThat_5 : decode cX6_deedsThat 5 = .ok (.iload 4, 2) := by decide +kernel
theorem dX6_deedsThat_7 : decode cX6_deedsThat 7 = .ok (.aload_n 0, 1) := by decide +kernel
theorem dX6_deedsThat_8 : decode cX6_deedsThat 8 = .ok (.getfield 82, 3) := by decide +kernel
theorem dX6_deedsThat_11 : decode cX6_deedsThat 11 = .ok (.if_icmp .ge 31, 3) := by decide +kernel
theorem dX6_deedsThat_14 : decode cX6_deedsThat 14 = .ok (.iload_n 3, 1) := by decide +kernel
theorem dX6_deedsThat_15 : decode cX6_deedsThat 15 = .ok (.aload_n 1, 1) := by decide +kernel
theorem dX6_deedsThat_16 : decode cX6_deedsThat 16 = .ok (.bipush 14, 2) := by decide +kernel
theorem dX6_deedsThat_18 : decode cX6_deedsThat 18 = .ok (.iload 4, 2) := by decide +kernel
theorem dX6_deedsThat_20 : decode cX6_deedsThat 20 = .ok (.iadd, 1) := by decide +kernel
theorem dX6_deedsThat_21 : decode cX6_deedsThat 21 = .ok (.iaload, 1) := by decide +kernel
theorem dX6_deedsThat_22 : decode cX6_deedsThat 22 = .ok (.iload_n 2, 1) := by decide +kernel
theorem dX6_deedsThat_23 : decode cX6_deedsThat 23 = .ok (.if_icmp .ne 10, 3) := by decide +kernel
theorem dX6_deedsThat_26 : decode cX6_deedsThat 26 = .ok (.iconst 1, 1) := by decide +kernel
theorem dX6_deedsThat_27 : decode cX6_deedsThat 27 = .ok (.iload 4, 2) := by decide +kernel
theorem dX6_deedsThat_29 : decode cX6_deedsThat 29 = .ok (.ishl, 1) := by decide +kernel
theorem dX6_deedsThat_30 : decode cX6_deedsThat 30 = .ok (.goto 4, 3) := by decide +kernel
theorem dX6_deedsThat_33 : decode cX6_deedsThat 33 = .ok (.iconst 0, 1) := by decide +kernel
theorem dX6_deedsThat_34 : decode cX6_deedsThat 34 = .ok (.ior, 1) := by decide +kernel
theorem dX6_deedsThat_35 : decode cX6_deedsThat 35 = .ok (.istore_n 3, 1) := by decide +kernel
theorem dX6_deedsThat_36 : decode cX6_deedsThat 36 = .ok (.iinc 4 1, 3) := by decide +kernel
theorem dX6_deedsThat_39 : decode cX6_deedsThat 39 = .ok (.goto (-34), 3) := by decide +kernel
theorem dX6_deedsThat_42 : decode cX6_deedsThat 42 = .ok (.iload_n 3, 1) := by decide +kernel
theorem dX6_deedsThat_43 : decode cX6_deedsThat 43 = .ok (.ireturn, 1) := by decide +kernel
theorem dX6_ownOf_0 : decode cX6_ownOf 0 = .ok (.iconst 0, 1) := by decide +kernel
theorem dX6_ownOf_1 : decode cX6_ownOf 1 = .ok (.istore_n 2, 1) := by decide +kernel
theorem dX6_ownOf_2 : decode cX6_ownOf 2 = .ok (.iconst 0, 1) := by decide +kernel
theorem dX6_ownOf_3 : decode cX6_ownOf 3 = .ok (.istore_n 3, 1) := by decide +kernel
theorem dX6_ownOf_4 : decode cX6_ownOf 4 = .ok (.iload_n 3, 1) := by decide +kernel
theorem dX6_ownOf_5 : decode cX6_ownOf 5 = .ok (.aload_n 0, 1) := by decide +kernel
theorem dX6_ownOf_6 : decode cX6_ownOf 6 = .ok (.getfield 79, 3) := by decide +kernel
theorem dX6_ownOf_9 : decode cX6_ownOf 9 = .ok (.if_icmp .ge 29, 3) := by decide +kernel
theorem dX6_ownOf_12 : decode cX6_ownOf 12 = .ok (.iload_n 2, 1) := by decide +kernel
theorem dX6_ownOf_13 : decode cX6_ownOf 13 = .ok (.aload_n 0, 1) := by decide +kernel
theorem dX6_ownOf_14 : decode cX6_ownOf 14 = .ok (.getfield 13, 3) := by decide +kernel
theorem dX6_ownOf_17 : decode cX6_ownOf 17 = .ok (.iload_n 3, 1) := by decide +kernel
theorem dX6_ownOf_18 : decode cX6_ownOf 18 = .ok (.iaload, 1) := by decide +kernel
theorem dX6_ownOf_19 : decode cX6_ownOf 19 = .ok (.iload_n 1, 1) := by decide +kernel
theorem dX6_ownOf_20 : decode cX6_ownOf 20 = .ok (.if_icmp .ne 9, 3) := by decide +kernel
theorem dX6_ownOf_23 : decode cX6_ownOf 23 = .ok (.iconst 1, 1) := by decide +kernel
theorem dX6_ownOf_24 : decode cX6_ownOf 24 = .ok (.iload_n 3, 1) := by decide +kernel
theorem dX6_ownOf_25 : decode cX6_ownOf 25 = .ok (.ishl, 1) := by decide +kernel
theorem dX6_ownOf_26 : decode cX6_ownOf 26 = .ok (.goto 4, 3) := by decide +kernel
theorem dX6_ownOf_29 : decode cX6_ownOf 29 = .ok (.iconst 0, 1) := by decide +kernel
theorem dX6_ownOf_30 : decode cX6_ownOf 30 = .ok (.ior, 1) := by decide +kernel
theorem dX6_ownOf_31 : decode cX6_ownOf 31 = .ok (.istore_n 2, 1) := by decide +kernel
theorem dX6_ownOf_32 : decode cX6_ownOf 32 = .ok (.iinc 3 1, 3) := by decide +kernel
theorem dX6_ownOf_35 : decode cX6_ownOf 35 = .ok (.goto (-31), 3) := by decide +kernel
theorem dX6_ownOf_38 : decode cX6_ownOf 38 = .ok (.iload_n 2, 1) := by decide +kernel
theorem dX6_ownOf_39 : decode cX6_ownOf 39 = .ok (.ireturn, 1) := by decide +kernel
theorem dX6_deedsOf_0 : decode cX6_deedsOf 0 = .ok (.iconst 0, 1) := by decide +kernel
theorem dX6_deedsOf_1 : decode cX6_deedsOf 1 = .ok (.istore_n 2, 1) := by decide +kernel
theorem dX6_deedsOf_2 : decode cX6_deedsOf 2 = .ok (.iconst 0, 1) := by decide +kernel
theorem dX6_deedsOf_3 : decode cX6_deedsOf 3 = .ok (.istore_n 3, 1) := by decide +kernel
theorem dX6_deedsOf_4 : decode cX6_deedsOf 4 = .ok (.iload_n 3, 1) := by decide +kernel
theorem dX6_deedsOf_5 : decode cX6_deedsOf 5 = .ok (.aload_n 0, 1) := by decide +kernel
theorem dX6_deedsOf_6 : decode cX6_deedsOf 6 = .ok (.getfield 82, 3) := by decide +kernel
theorem dX6_deedsOf_9 : decode cX6_deedsOf 9 = .ok (.if_icmp .ge 34, 3) := by decide +kernel
theorem dX6_deedsOf_12 : decode cX6_deedsOf 12 = .ok (.iload_n 2, 1) := by decide +kernel
theorem dX6_deedsOf_13 : decode cX6_deedsOf 13 = .ok (.aload_n 0, 1) := by decide +kernel
theorem dX6_deedsOf_14 : decode cX6_deedsOf 14 = .ok (.getfield 13, 3) := by decide +kernel
theorem dX6_deedsOf_17 : decode cX6_deedsOf 17 = .ok (.aload_n 0, 1) := by decide +kernel
theorem dX6_deedsOf_18 : decode cX6_deedsOf 18 = .ok (.getfield 22, 3) := by decide +kernel
theorem dX6_deedsOf_21 : decode cX6_deedsOf 21 = .ok (.iload_n 3, 1) := by decide +kernel
theorem dX6_deedsOf_22 : decode cX6_deedsOf 22 = .ok (.iaload, 1) := by decide +kernel
theorem dX6_deedsOf_23 : decode cX6_deedsOf 23 = .ok (.iaload, 1) := by decide +kernel
theorem dX6_deedsOf_24 : decode cX6_deedsOf 24 = .ok (.iload_n 1, 1) := by decide +kernel
theorem dX6_deedsOf_25 : decode cX6_deedsOf 25 = .ok (.if_icmp .ne 9, 3) := by decide +kernel
theorem dX6_deedsOf_28 : decode cX6_deedsOf 28 = .ok (.iconst 1, 1) := by decide +kernel
theorem dX6_deedsOf_29 : decode cX6_deedsOf 29 = .ok (.iload_n 3, 1) := by decide +kernel
theorem dX6_deedsOf_30 : decode cX6_deedsOf 30 = .ok (.ishl, 1) := by decide +kernel
theorem dX6_deedsOf_31 : decode cX6_deedsOf 31 = .ok (.goto 4, 3) := by decide +kernel
theorem dX6_deedsOf_34 : decode cX6_deedsOf 34 = .ok (.iconst 0, 1) := by decide +kernel
theorem dX6_deedsOf_35 : decode cX6_deedsOf 35 = .ok (.ior, 1) := by decide +kernel
theorem dX6_deedsOf_36 : decode cX6_deedsOf 36 = .ok (.istore_n 2, 1) := by decide +kernel
theorem dX6_deedsOf_37 : decode cX6_deedsOf 37 = .ok (.iinc 3 1, 3) := by decide +kernel
theorem dX6_deedsOf_40 : decode cX6_deedsOf 40 = .ok (.goto (-36), 3) := by decide +kernel
theorem dX6_deedsOf_43 : decode cX6_deedsOf 43 = .ok (.iload_n 2, 1) := by decide +kernel
theorem dX6_deedsOf_44 : decode cX6_deedsOf 44 = .ok (.ireturn, 1) := by decide +kernel
theorem dX6_goDay_0 : decode cX6_goDay 0 = .ok (.iconst 0, 1) := by decide +kernel
theorem dX6_goDay_1 : decode cX6_goDay 1 = .ok (.istore_n 2, 1) := by decide +kernel
theorem dX6_goDay_2 : decode cX6_goDay 2 = .ok (.iconst 0, 1) := by decide +kernel
theorem dX6_goDay_3 : decode cX6_goDay 3 = .ok (.istore_n 3, 1) := by decide +kernel
theorem dX6_goDay_4 : decode cX6_goDay 4 = .ok (.iload_n 3, 1) := by decide +kernel
theorem dX6_goDay_5 : decode cX6_goDay 5 = .ok (.aload_n 0, 1) := by decide +kernel
theorem dX6_goDay_6 : decode cX6_goDay 6 = .ok (.getfield 82, 3) := by decide +kernel
theorem dX6_goDay_9 : decode cX6_goDay 9 = .ok (.if_icmp .ge 113, 3) := by decide +kernel
theorem dX6_goDay_12 : decode cX6_goDay 12 = .ok (.aload_n 0, 1) := by decide +kernel
theorem dX6_goDay_13 : decode cX6_goDay 13 = .ok (.getfield 25, 3) := by decide +kernel
theorem dX6_goDay_16 : decode cX6_goDay 16 = .ok (.iload_n 3, 1) := by decide +kernel
theorem dX6_goDay_17 : decode cX6_goDay 17 = .ok (.iaload, 1) := by decide +kernel
theorem dX6_goDay_18 : decode cX6_goDay 18 = .ok (.aload_n 1, 1) := by decide +kernel
theorem dX6_goDay_19 : decode cX6_goDay 19 = .ok (.bipush 19, 2) := by decide +kernel
theorem dX6_goDay_21 : decode cX6_goDay 21 = .ok (.iaload, 1) := by decide +kernel
theorem dX6_goDay_22 : decode cX6_goDay 22 = .ok (.if_icmp .ne 94, 3) := by decide +kernel
theorem dX6_goDay_25 : decode cX6_goDay 25 = .ok (.aload_n 1, 1) := by decide +kernel
theorem dX6_goDay_26 : decode cX6_goDay 26 = .ok (.bipush 14, 2) := by decide +kernel
theorem dX6_goDay_28 : decode cX6_goDay 28 = .ok (.iload_n 3, 1) := by decide +kernel
theorem dX6_goDay_29 : decode cX6_goDay 29 = .ok (.iadd, 1) := by decide +kernel
theorem dX6_goDay_30 : decode cX6_goDay 30 = .ok (.iaload, 1) := by decide +kernel
theorem dX6_goDay_31 : decode cX6_goDay 31 = .ok (.ifCond .ne 85, 3) := by decide +kernel
theorem dX6_goDay_34 : decode cX6_goDay 34 = .ok (.aload_n 1, 1) := by decide +kernel
theorem dX6_goDay_35 : decode cX6_goDay 35 = .ok (.iconst 4, 1) := by decide +kernel
theorem dX6_goDay_36 : decode cX6_goDay 36 = .ok (.aload_n 0, 1) := by decide +kernel
theorem dX6_goDay_37 : decode cX6_goDay 37 = .ok (.getfield 22, 3) := by decide +kernel
theorem dX6_goDay_40 : decode cX6_goDay 40 = .ok (.iload_n 3, 1) := by decide +kernel
theorem dX6_goDay_41 : decode cX6_goDay 41 = .ok (.iaload, 1) := by decide +kernel
theorem dX6_goDay_42 : decode cX6_goDay 42 = .ok (.iadd, 1) := by decide +kernel
theorem dX6_goDay_43 : decode cX6_goDay 43 = .ok (.iaload, 1) := by decide +kernel
theorem dX6_goDay_44 : decode cX6_goDay 44 = .ok (.ifCond .ne 7, 3) := by decide +kernel
theorem dX6_goDay_47 : decode cX6_goDay 47 = .ok (.iconst 1, 1) := by decide +kernel
theorem dX6_goDay_48 : decode cX6_goDay 48 = .ok (.goto 4, 3) := by decide +kernel
theorem dX6_goDay_51 : decode cX6_goDay 51 = .ok (.iconst 0, 1) := by decide +kernel
theorem dX6_goDay_52 : decode cX6_goDay 52 = .ok (.istore 4, 2) := by decide +kernel
theorem dX6_goDay_54 : decode cX6_goDay 54 = .ok (.aload_n 1, 1) := by decide +kernel
theorem dX6_goDay_55 : decode cX6_goDay 55 = .ok (.bipush 14, 2) := by decide +kernel
theorem dX6_goDay_57 : decode cX6_goDay 57 = .ok (.iload_n 3, 1) := by decide +kernel
theorem dX6_goDay_58 : decode cX6_goDay 58 = .ok (.iadd, 1) := by decide +kernel
theorem dX6_goDay_59 : decode cX6_goDay 59 = .ok (.iload 4, 2) := by decide +kernel
theorem dX6_goDay_61 : decode cX6_goDay 61 = .ok (.ifCond .eq 7, 3) := by decide +kernel
theorem dX6_goDay_64 : decode cX6_goDay 64 = .ok (.iconst 1, 1) := by decide +kernel
theorem dX6_goDay_65 : decode cX6_goDay 65 = .ok (.goto 4, 3) := by decide +kernel
theorem dX6_goDay_68 : decode cX6_goDay 68 = .ok (.iconst 2, 1) := by decide +kernel
theorem dX6_goDay_69 : decode cX6_goDay 69 = .ok (.iastore, 1) := by decide +kernel
theorem dX6_goDay_70 : decode cX6_goDay 70 = .ok (.aload_n 1, 1) := by decide +kernel
theorem dX6_goDay_71 : decode cX6_goDay 71 = .ok (.iconst 1, 1) := by decide +kernel
theorem dX6_goDay_72 : decode cX6_goDay 72 = .ok (.aload_n 0, 1) := by decide +kernel
theorem dX6_goDay_73 : decode cX6_goDay 73 = .ok (.getfield 13, 3) := by decide +kernel
theorem dX6_goDay_76 : decode cX6_goDay 76 = .ok (.aload_n 0, 1) := by decide +kernel
theorem dX6_goDay_77 : decode cX6_goDay 77 = .ok (.getfield 22, 3) := by decide +kernel
theorem dX6_goDay_80 : decode cX6_goDay 80 = .ok (.iload_n 3, 1) := by decide +kernel
theorem dX6_goDay_81 : decode cX6_goDay 81 = .ok (.iaload, 1) := by decide +kernel
theorem dX6_goDay_82 : decode cX6_goDay 82 = .ok (.iaload, 1) := by decide +kernel
theorem dX6_goDay_83 : decode cX6_goDay 83 = .ok (.iadd, 1) := by decide +kernel
theorem dX6_goDay_84 : decode cX6_goDay 84 = .ok (.dup2, 1) := by decide +kernel
theorem dX6_goDay_85 : decode cX6_goDay 85 = .ok (.iaload, 1) := by decide +kernel
theorem dX6_goDay_86 : decode cX6_goDay 86 = .ok (.iload 4, 2) := by decide +kernel
theorem dX6_goDay_88 : decode cX6_goDay 88 = .ok (.ifCond .eq 12, 3) := by decide +kernel
theorem dX6_goDay_91 : decode cX6_goDay 91 = .ok (.aload_n 0, 1) := by decide +kernel
theorem dX6_goDay_92 : decode cX6_goDay 92 = .ok (.getfield 28, 3) := by decide +kernel
theorem dX6_goDay_95 : decode cX6_goDay 95 = .ok (.iload_n 3, 1) := by decide +kernel
theorem dX6_goDay_96 : decode cX6_goDay 96 = .ok (.iaload, 1) := by decide +kernel
theorem dX6_goDay_97 : decode cX6_goDay 97 = .ok (.goto 4, 3) := by decide +kernel
theorem dX6_goDay_100 : decode cX6_goDay 100 = .ok (.iconst 0, 1) := by decide +kernel
theorem dX6_goDay_101 : decode cX6_goDay 101 = .ok (.iadd, 1) := by decide +kernel
theorem dX6_goDay_102 : decode cX6_goDay 102 = .ok (.iastore, 1) := by decide +kernel
theorem dX6_goDay_103 : decode cX6_goDay 103 = .ok (.iload_n 2, 1) := by decide +kernel
theorem dX6_goDay_104 : decode cX6_goDay 104 = .ok (.iload 4, 2) := by decide +kernel
theorem dX6_goDay_106 : decode cX6_goDay 106 = .ok (.ifCond .eq 7, 3) := by decide +kernel
theorem dX6_goDay_109 : decode cX6_goDay 109 = .ok (.iconst 1, 1) := by decide +kernel
theorem dX6_goDay_110 : decode cX6_goDay 110 = .ok (.goto 4, 3) := by decide +kernel
theorem dX6_goDay_113 : decode cX6_goDay 113 = .ok (.iconst 0, 1) := by decide +kernel
theorem dX6_goDay_114 : decode cX6_goDay 114 = .ok (.iadd, 1) := by decide +kernel
theorem dX6_goDay_115 : decode cX6_goDay 115 = .ok (.istore_n 2, 1) := by decide +kernel
theorem dX6_goDay_116 : decode cX6_goDay 116 = .ok (.iinc 3 1, 3) := by decide +kernel
theorem dX6_goDay_119 : decode cX6_goDay 119 = .ok (.goto (-115), 3) := by decide +kernel
theorem dX6_goDay_122 : decode cX6_goDay 122 = .ok (.aload_n 1, 1) := by decide +kernel
theorem dX6_goDay_123 : decode cX6_goDay 123 = .ok (.bipush 19, 2) := by decide +kernel
theorem dX6_goDay_125 : decode cX6_goDay 125 = .ok (.dup2, 1) := by decide +kernel
theorem dX6_goDay_126 : decode cX6_goDay 126 = .ok (.iaload, 1) := by decide +kernel
theorem dX6_goDay_127 : decode cX6_goDay 127 = .ok (.iconst 1, 1) := by decide +kernel
theorem dX6_goDay_128 : decode cX6_goDay 128 = .ok (.iadd, 1) := by decide +kernel
theorem dX6_goDay_129 : decode cX6_goDay 129 = .ok (.iastore, 1) := by decide +kernel
theorem dX6_goDay_130 : decode cX6_goDay 130 = .ok (.iconst 0, 1) := by decide +kernel
theorem dX6_goDay_131 : decode cX6_goDay 131 = .ok (.istore_n 3, 1) := by decide +kernel
theorem dX6_goDay_132 : decode cX6_goDay 132 = .ok (.iload_n 3, 1) := by decide +kernel
theorem dX6_goDay_133 : decode cX6_goDay 133 = .ok (.aload_n 0, 1) := by decide +kernel
theorem dX6_goDay_134 : decode cX6_goDay 134 = .ok (.getfield 79, 3) := by decide +kernel
theorem dX6_goDay_137 : decode cX6_goDay 137 = .ok (.if_icmp .ge 70, 3) := by decide +kernel
theorem dX6_goDay_140 : decode cX6_goDay 140 = .ok (.aload_n 1, 1) := by decide +kernel
theorem dX6_goDay_141 : decode cX6_goDay 141 = .ok (.iconst 4, 1) := by decide +kernel
theorem dX6_goDay_142 : decode cX6_goDay 142 = .ok (.iload_n 3, 1) := by decide +kernel
theorem dX6_goDay_143 : decode cX6_goDay 143 = .ok (.iadd, 1) := by decide +kernel
theorem dX6_goDay_144 : decode cX6_goDay 144 = .ok (.iaload, 1) := by decide +kernel
theorem dX6_goDay_145 : decode cX6_goDay 145 = .ok (.iconst 1, 1) := by decide +kernel
theorem dX6_goDay_146 : decode cX6_goDay 146 = .ok (.if_icmp .ne 33, 3) := by decide +kernel
theorem dX6_goDay_149 : decode cX6_goDay 149 = .ok (.aload_n 0, 1) := by decide +kernel
theorem dX6_goDay_150 : decode cX6_goDay 150 = .ok (.getfield 19, 3) := by decide +kernel
theorem dX6_goDay_153 : decode cX6_goDay 153 = .ok (.iload_n 3, 1) := by decide +kernel
theorem dX6_goDay_154 : decode cX6_goDay 154 = .ok (.iaload, 1) := by decide +kernel
theorem dX6_goDay_155 : decode cX6_goDay 155 = .ok (.iconst 3, 1) := by decide +kernel
theorem dX6_goDay_156 : decode cX6_goDay 156 = .ok (.if_icmp .eq 23, 3) := by decide +kernel
theorem dX6_goDay_159 : decode cX6_goDay 159 = .ok (.aload_n 1, 1) := by decide +kernel
theorem dX6_goDay_160 : decode cX6_goDay 160 = .ok (.bipush 19, 2) := by decide +kernel
theorem dX6_goDay_162 : decode cX6_goDay 162 = .ok (.iaload, 1) := by decide +kernel
theorem dX6_goDay_163 : decode cX6_goDay 163 = .ok (.aload_n 1, 1) := by decide +kernel
theorem dX6_goDay_164 : decode cX6_goDay 164 = .ok (.bipush 9, 2) := by decide +kernel
theorem dX6_goDay_166 : decode cX6_goDay 166 = .ok (.iload_n 3, 1) := by decide +kernel
theorem dX6_goDay_167 : decode cX6_goDay 167 = .ok (.iadd, 1) := by decide +kernel
theorem dX6_goDay_168 : decode cX6_goDay 168 = .ok (.iaload, 1) := by decide +kernel
theorem dX6_goDay_169 : decode cX6_goDay 169 = .ok (.isub, 1) := by decide +kernel
theorem dX6_goDay_170 : decode cX6_goDay 170 = .ok (.bipush 9, 2) := by decide +kernel
theorem dX6_goDay_172 : decode cX6_goDay 172 = .ok (.if_icmp .lt 7, 3) := by decide +kernel
theorem dX6_goDay_175 : decode cX6_goDay 175 = .ok (.iconst 1, 1) := by decide +kernel
theorem dX6_goDay_176 : decode cX6_goDay 176 = .ok (.goto 4, 3) := by decide +kernel
theorem dX6_goDay_179 : decode cX6_goDay 179 = .ok (.iconst 0, 1) := by decide +kernel
theorem dX6_goDay_180 : decode cX6_goDay 180 = .ok (.istore 4, 2) := by decide +kernel
theorem dX6_goDay_182 : decode cX6_goDay 182 = .ok (.aload_n 1, 1) := by decide +kernel
theorem dX6_goDay_183 : decode cX6_goDay 183 = .ok (.iconst 4, 1) := by decide +kernel
theorem dX6_goDay_184 : decode cX6_goDay 184 = .ok (.iload_n 3, 1) := by decide +kernel
theorem dX6_goDay_185 : decode cX6_goDay 185 = .ok (.iadd, 1) := by decide +kernel
theorem dX6_goDay_186 : decode cX6_goDay 186 = .ok (.iload 4, 2) := by decide +kernel
theorem dX6_goDay_188 : decode cX6_goDay 188 = .ok (.ifCond .eq 7, 3) := by decide +kernel
theorem dX6_goDay_191 : decode cX6_goDay 191 = .ok (.iconst 2, 1) := by decide +kernel
theorem dX6_goDay_192 : decode cX6_goDay 192 = .ok (.goto 8, 3) := by decide +kernel
theorem dX6_goDay_195 : decode cX6_goDay 195 = .ok (.aload_n 1, 1) := by decide +kernel
theorem dX6_goDay_196 : decode cX6_goDay 196 = .ok (.iconst 4, 1) := by decide +kernel
theorem dX6_goDay_197 : decode cX6_goDay 197 = .ok (.iload_n 3, 1) := by decide +kernel
theorem dX6_goDay_198 : decode cX6_goDay 198 = .ok (.iadd, 1) := by decide +kernel
theorem dX6_goDay_199 : decode cX6_goDay 199 = .ok (.iaload, 1) := by decide +kernel
theorem dX6_goDay_200 : decode cX6_goDay 200 = .ok (.iastore, 1) := by decide +kernel
theorem dX6_goDay_201 : decode cX6_goDay 201 = .ok (.iinc 3 1, 3) := by decide +kernel
theorem dX6_goDay_204 : decode cX6_goDay 204 = .ok (.goto (-72), 3) := by decide +kernel
theorem dX6_goDay_207 : decode cX6_goDay 207 = .ok (.iload_n 2, 1) := by decide +kernel
theorem dX6_goDay_208 : decode cX6_goDay 208 = .ok (.ireturn, 1) := by decide +kernel
theorem dX6_goDays_0 : decode cX6_goDays 0 = .ok (.iconst 0, 1) := by decide +kernel
theorem dX6_goDays_1 : decode cX6_goDays 1 = .ok (.istore_n 2, 1) := by decide +kernel
theorem dX6_goDays_2 : decode cX6_goDays 2 = .ok (.iload_n 2, 1) := by decide +kernel
theorem dX6_goDays_3 : decode cX6_goDays 3 = .ok (.iload_n 1, 1) := by decide +kernel
theorem dX6_goDays_4 : decode cX6_goDays 4 = .ok (.if_icmp .ge 18, 3) := by decide +kernel
theorem dX6_goDays_7 : decode cX6_goDays 7 = .ok (.aload_n 0, 1) := by decide +kernel
theorem dX6_goDays_8 : decode cX6_goDays 8 = .ok (.aload_n 0, 1) := by decide +kernel
theorem dX6_goDays_9 : decode cX6_goDays 9 = .ok (.getfield 43, 3) := by decide +kernel
theorem dX6_goDays_12 : decode cX6_goDays 12 = .ok (.invokevirtual 133, 3) := by decide +kernel
theorem dX6_goDays_15 : decode cX6_goDays 15 = .ok (.pop, 1) := by decide +kernel
theorem dX6_goDays_16 : decode cX6_goDays 16 = .ok (.iinc 2 1, 3) := by decide +kernel
theorem dX6_goDays_19 : decode cX6_goDays 19 = .ok (.goto (-17), 3) := by decide +kernel
theorem dX6_goDays_22 : decode cX6_goDays 22 = .ok (.return_, 1) := by decide +kernel
theorem dX6_about_0 : decode cX6_about 0 = .ok (.aload_n 0, 1) := by decide +kernel
theorem dX6_about_1 : decode cX6_about 1 = .ok (.iconst 0, 1) := by decide +kernel
theorem dX6_about_2 : decode cX6_about 2 = .ok (.putfield 68, 3) := by decide +kernel
theorem dX6_about_5 : decode cX6_about 5 = .ok (.iload_n 1, 1) := by decide +kernel
theorem dX6_about_6 : decode cX6_about 6 = .ok (.tableswitch 136 0 12 #[66, 71, 76, 81, 89, 96, 96, 96, 108, 108, 121, 126, 131], 66) := by decide +kernel
theorem dX6_about_72 : decode cX6_about 72 = .ok (.aload_n 0, 1) := by decide +kernel
theorem dX6_about_73 : decode cX6_about 73 = .ok (.getfield 72, 3) := by decide +kernel
theorem dX6_about_76 : decode cX6_about 76 = .ok (.ireturn, 1) := by decide +kernel
theorem dX6_about_77 : decode cX6_about 77 = .ok (.aload_n 0, 1) := by decide +kernel
theorem dX6_about_78 : decode cX6_about 78 = .ok (.getfield 79, 3) := by decide +kernel
theorem dX6_about_81 : decode cX6_about 81 = .ok (.ireturn, 1) := by decide +kernel
theorem dX6_about_82 : decode cX6_about 82 = .ok (.aload_n 0, 1) := by decide +kernel
theorem dX6_about_83 : decode cX6_about 83 = .ok (.getfield 82, 3) := by decide +kernel
theorem dX6_about_86 : decode cX6_about 86 = .ok (.ireturn, 1) := by decide +kernel
theorem dX6_about_87 : decode cX6_about 87 = .ok (.aload_n 0, 1) := by decide +kernel
theorem dX6_about_88 : decode cX6_about 88 = .ok (.getfield 40, 3) := by decide +kernel
theorem dX6_about_91 : decode cX6_about 91 = .ok (.bipush 19, 2) := by decide +kernel
theorem dX6_about_93 : decode cX6_about 93 = .ok (.iaload, 1) := by decide +kernel
theorem dX6_about_94 : decode cX6_about 94 = .ok (.ireturn, 1) := by decide +kernel
theorem dX6_about_95 : decode cX6_about 95 = .ok (.aload_n 0, 1) := by decide +kernel
theorem dX6_about_96 : decode cX6_about 96 = .ok (.getfield 40, 3) := by decide +kernel
theorem dX6_about_99 : decode cX6_about 99 = .ok (.iconst 0, 1) := by decide +kernel
theorem dX6_about_100 : decode cX6_about 100 = .ok (.iaload, 1) := by decide +kernel
theorem dX6_about_101 : decode cX6_about 101 = .ok (.ireturn, 1) := by decide +kernel
theorem dX6_about_102 : decode cX6_about 102 = .ok (.aload_n 0, 1) := by decide +kernel
theorem dX6_about_103 : decode cX6_about 103 = .ok (.aload_n 0, 1) := by decide +kernel
theorem dX6_about_104 : decode cX6_about 104 = .ok (.getfield 40, 3) := by decide +kernel
theorem dX6_about_107 : decode cX6_about 107 = .ok (.iload_n 1, 1) := by decide +kernel
theorem dX6_about_108 : decode cX6_about 108 = .ok (.iconst 5, 1) := by decide +kernel
theorem dX6_about_109 : decode cX6_about 109 = .ok (.isub, 1) := by decide +kernel
theorem dX6_about_110 : decode cX6_about 110 = .ok (.invokevirtual 137, 3) := by decide +kernel
theorem dX6_about_113 : decode cX6_about 113 = .ok (.ireturn, 1) := by decide +kernel
theorem dX6_about_114 : decode cX6_about 114 = .ok (.aload_n 0, 1) := by decide +kernel
theorem dX6_about_115 : decode cX6_about 115 = .ok (.aload_n 0, 1) := by decide +kernel
theorem dX6_about_116 : decode cX6_about 116 = .ok (.getfield 40, 3) := by decide +kernel
theorem dX6_about_119 : decode cX6_about 119 = .ok (.iload_n 1, 1) := by decide +kernel
theorem dX6_about_120 : decode cX6_about 120 = .ok (.bipush 7, 2) := by decide +kernel
theorem dX6_about_122 : decode cX6_about 122 = .ok (.isub, 1) := by decide +kernel
theorem dX6_about_123 : decode cX6_about 123 = .ok (.invokevirtual 141, 3) := by decide +kernel
theorem dX6_about_126 : decode cX6_about 126 = .ok (.ireturn, 1) := by decide +kernel
theorem dX6_about_127 : decode cX6_about 127 = .ok (.aload_n 0, 1) := by decide +kernel
theorem dX6_about_128 : decode cX6_about 128 = .ok (.getfield 126, 3) := by decide +kernel
theorem dX6_about_131 : decode cX6_about 131 = .ok (.ireturn, 1) := by decide +kernel
theorem dX6_about_132 : decode cX6_about 132 = .ok (.aload_n 0, 1) := by decide +kernel
theorem dX6_about_133 : decode cX6_about 133 = .ok (.getfield 144, 3) := by decide +kernel
theorem dX6_about_136 : decode cX6_about 136 = .ok (.ireturn, 1) := by decide +kernel
theorem dX6_about_137 : decode cX6_about 137 = .ok (.aload_n 0, 1) := by decide +kernel
theorem dX6_about_138 : decode cX6_about 138 = .ok (.getfield 87, 3) := by decide +kernel
theorem dX6_about_141 : decode cX6_about 141 = .ok (.ireturn, 1) := by decide +kernel
theorem dX6_about_142 : decode cX6_about 142 = .ok (.bipush (-2), 2) := by decide +kernel
theorem dX6_about_144 : decode cX6_about 144 = .ok (.ireturn, 1) := by decide +kernel
theorem dX6_person_0 : decode cX6_person 0 = .ok (.aload_n 0, 1) := by decide +kernel
theorem dX6_person_1 : decode cX6_person 1 = .ok (.iconst 0, 1) := by decide +kernel
theorem dX6_person_2 : decode cX6_person 2 = .ok (.putfield 68, 3) := by decide +kernel
theorem dX6_person_5 : decode cX6_person 5 = .ok (.aload_n 0, 1) := by decide +kernel
theorem dX6_person_6 : decode cX6_person 6 = .ok (.iload_n 1, 1) := by decide +kernel
theorem dX6_person_7 : decode cX6_person 7 = .ok (.invokevirtual 147, 3) := by decide +kernel
theorem dX6_person_10 : decode cX6_person 10 = .ok (.ifCond .eq 5, 3) := by decide +kernel
theorem dX6_person_13 : decode cX6_person 13 = .ok (.iconst (-1), 1) := by decide +kernel
theorem dX6_person_14 : decode cX6_person 14 = .ok (.ireturn, 1) := by decide +kernel
theorem dX6_person_15 : decode cX6_person 15 = .ok (.iload_n 2, 1) := by decide +kernel
theorem dX6_person_16 : decode cX6_person 16 = .ok (.tableswitch 49 0 2 #[28, 37, 43], 28) := by decide +kernel
theorem dX6_person_44 : decode cX6_person 44 = .ok (.aload_n 0, 1) := by decide +kernel
theorem dX6_person_45 : decode cX6_person 45 = .ok (.getfield 40, 3) := by decide +kernel
theorem dX6_person_48 : decode cX6_person 48 = .ok (.iconst 1, 1) := by decide +kernel
theorem dX6_person_49 : decode cX6_person 49 = .ok (.iload_n 1, 1) := by decide +kernel
theorem dX6_person_50 : decode cX6_person 50 = .ok (.iadd, 1) := by decide +kernel
theorem dX6_person_51 : decode cX6_person 51 = .ok (.iaload, 1) := by decide +kernel
theorem dX6_person_52 : decode cX6_person 52 = .ok (.ireturn, 1) := by decide +kernel
theorem dX6_person_53 : decode cX6_person 53 = .ok (.aload_n 0, 1) := by decide +kernel
theorem dX6_person_54 : decode cX6_person 54 = .ok (.iload_n 1, 1) := by decide +kernel
theorem dX6_person_55 : decode cX6_person 55 = .ok (.invokevirtual 151, 3) := by decide +kernel
theorem dX6_person_58 : decode cX6_person 58 = .ok (.ireturn, 1) := by decide +kernel
theorem dX6_person_59 : decode cX6_person 59 = .ok (.aload_n 0, 1) := by decide +kernel
theorem dX6_person_60 : decode cX6_person 60 = .ok (.iload_n 1, 1) := by decide +kernel
theorem dX6_person_61 : decode cX6_person 61 = .ok (.invokevirtual 155, 3) := by decide +kernel
theorem dX6_person_64 : decode cX6_person 64 = .ok (.ireturn, 1) := by decide +kernel
theorem dX6_person_65 : decode cX6_person 65 = .ok (.bipush (-2), 2) := by decide +kernel
theorem dX6_person_67 : decode cX6_person 67 = .ok (.ireturn, 1) := by decide +kernel
theorem dX6_quality_0 : decode cX6_quality 0 = .ok (.aload_n 0, 1) := by decide +kernel
theorem dX6_quality_1 : decode cX6_quality 1 = .ok (.iconst 0, 1) := by decide +kernel
theorem dX6_quality_2 : decode cX6_quality 2 = .ok (.putfield 68, 3) := by decide +kernel
theorem dX6_quality_5 : decode cX6_quality 5 = .ok (.aload_n 0, 1) := by decide +kernel
theorem dX6_quality_6 : decode cX6_quality 6 = .ok (.iload_n 1, 1) := by decide +kernel
theorem dX6_quality_7 : decode cX6_quality 7 = .ok (.invokevirtual 158, 3) := by decide +kernel
theorem dX6_quality_10 : decode cX6_quality 10 = .ok (.ifCond .eq 5, 3) := by decide +kernel
theorem dX6_quality_13 : decode cX6_quality 13 = .ok (.iconst (-1), 1) := by decide +kernel
theorem dX6_quality_14 : decode cX6_quality 14 = .ok (.ireturn, 1) := by decide +kernel
theorem dX6_quality_15 : decode cX6_quality 15 = .ok (.iload_n 2, 1) := by decide +kernel
theorem dX6_quality_16 : decode cX6_quality 16 = .ok (.tableswitch 107 0 5 #[40, 47, 54, 61, 70, 97], 40) := by decide +kernel
theorem dX6_quality_56 : decode cX6_quality 56 = .ok (.aload_n 0, 1) := by decide +kernel
theorem dX6_quality_57 : decode cX6_quality 57 = .ok (.getfield 13, 3) := by decide +kernel
theorem dX6_quality_60 : decode cX6_quality 60 = .ok (.iload_n 1, 1) := by decide +kernel
theorem dX6_quality_61 : decode cX6_quality 61 = .ok (.iaload, 1) := by decide +kernel
theorem dX6_quality_62 : decode cX6_quality 62 = .ok (.ireturn, 1) := by decide +kernel
theorem dX6_quality_63 : decode cX6_quality 63 = .ok (.aload_n 0, 1) := by decide +kernel
theorem dX6_quality_64 : decode cX6_quality 64 = .ok (.getfield 16, 3) := by decide +kernel
theorem dX6_quality_67 : decode cX6_quality 67 = .ok (.iload_n 1, 1) := by decide +kernel
theorem dX6_quality_68 : decode cX6_quality 68 = .ok (.iaload, 1) := by decide +kernel
theorem dX6_quality_69 : decode cX6_quality 69 = .ok (.ireturn, 1) := by decide +kernel
theorem dX6_quality_70 : decode cX6_quality 70 = .ok (.aload_n 0, 1) := by decide +kernel
theorem dX6_quality_71 : decode cX6_quality 71 = .ok (.getfield 19, 3) := by decide +kernel
theorem dX6_quality_74 : decode cX6_quality 74 = .ok (.iload_n 1, 1) := by decide +kernel
theorem dX6_quality_75 : decode cX6_quality 75 = .ok (.iaload, 1) := by decide +kernel
theorem dX6_quality_76 : decode cX6_quality 76 = .ok (.ireturn, 1) := by decide +kernel
theorem dX6_quality_77 : decode cX6_quality 77 = .ok (.aload_n 0, 1) := by decide +kernel
theorem dX6_quality_78 : decode cX6_quality 78 = .ok (.getfield 40, 3) := by decide +kernel
theorem dX6_quality_81 : decode cX6_quality 81 = .ok (.iconst 4, 1) := by decide +kernel
theorem dX6_quality_82 : decode cX6_quality 82 = .ok (.iload_n 1, 1) := by decide +kernel
theorem dX6_quality_83 : decode cX6_quality 83 = .ok (.iadd, 1) := by decide +kernel
theorem dX6_quality_84 : decode cX6_quality 84 = .ok (.iaload, 1) := by decide +kernel
theorem dX6_quality_85 : decode cX6_quality 85 = .ok (.ireturn, 1) := by decide +kernel
theorem dX6_quality_86 : decode cX6_quality 86 = .ok (.aload_n 0, 1) := by decide +kernel
theorem dX6_quality_87 : decode cX6_quality 87 = .ok (.getfield 40, 3) := by decide +kernel
theorem dX6_quality_90 : decode cX6_quality 90 = .ok (.iconst 4, 1) := by decide +kernel
theorem dX6_quality_91 : decode cX6_quality 91 = .ok (.iload_n 1, 1) := by decide +kernel
theorem dX6_quality_92 : decode cX6_quality 92 = .ok (.iadd, 1) := by decide +kernel
theorem dX6_quality_93 : decode cX6_quality 93 = .ok (.iaload, 1) := by decide +kernel
theorem dX6_quality_94 : decode cX6_quality 94 = .ok (.iconst 1, 1) := by decide +kernel
theorem dX6_quality_95 : decode cX6_quality 95 = .ok (.if_icmp .ne 15, 3) := by decide +kernel
theorem dX6_quality_98 : decode cX6_quality 98 = .ok (.aload_n 0, 1) := by decide +kernel
theorem dX6_quality_99 : decode cX6_quality 99 = .ok (.getfield 40, 3) := by decide +kernel
theorem dX6_quality_102 : decode cX6_quality 102 = .ok (.bipush 9, 2) := by decide +kernel
theorem dX6_quality_104 : decode cX6_quality 104 = .ok (.iload_n 1, 1) := by decide +kernel
theorem dX6_quality_105 : decode cX6_quality 105 = .ok (.iadd, 1) := by decide +kernel
theorem dX6_quality_106 : decode cX6_quality 106 = .ok (.iaload, 1) := by decide +kernel
theorem dX6_quality_107 : decode cX6_quality 107 = .ok (.goto 5, 3) := by decide +kernel
theorem dX6_quality_110 : decode cX6_quality 110 = .ok (.bipush (-9), 2) := by decide +kernel
theorem dX6_quality_112 : decode cX6_quality 112 = .ok (.ireturn, 1) := by decide +kernel
theorem dX6_quality_113 : decode cX6_quality 113 = .ok (.aload_n 0, 1) := by decide +kernel
theorem dX6_quality_114 : decode cX6_quality 114 = .ok (.aload_n 0, 1) := by decide +kernel
theorem dX6_quality_115 : decode cX6_quality 115 = .ok (.getfield 40, 3) := by decide +kernel
theorem dX6_quality_118 : decode cX6_quality 118 = .ok (.iload_n 1, 1) := by decide +kernel
theorem dX6_quality_119 : decode cX6_quality 119 = .ok (.invokevirtual 161, 3) := by decide +kernel
theorem dX6_quality_122 : decode cX6_quality 122 = .ok (.ireturn, 1) := by decide +kernel
theorem dX6_quality_123 : decode cX6_quality 123 = .ok (.bipush (-2), 2) := by decide +kernel
theorem dX6_quality_125 : decode cX6_quality 125 = .ok (.ireturn, 1) := by decide +kernel
theorem dX6_deed_0 : decode cX6_deed 0 = .ok (.aload_n 0, 1) := by decide +kernel
theorem dX6_deed_1 : decode cX6_deed 1 = .ok (.iconst 0, 1) := by decide +kernel
theorem dX6_deed_2 : decode cX6_deed 2 = .ok (.putfield 68, 3) := by decide +kernel
theorem dX6_deed_5 : decode cX6_deed 5 = .ok (.aload_n 0, 1) := by decide +kernel
theorem dX6_deed_6 : decode cX6_deed 6 = .ok (.iload_n 1, 1) := by decide +kernel
theorem dX6_deed_7 : decode cX6_deed 7 = .ok (.invokevirtual 164, 3) := by decide +kernel
theorem dX6_deed_10 : decode cX6_deed 10 = .ok (.ifCond .eq 5, 3) := by decide +kernel
theorem dX6_deed_13 : decode cX6_deed 13 = .ok (.iconst (-1), 1) := by decide +kernel
theorem dX6_deed_14 : decode cX6_deed 14 = .ok (.ireturn, 1) := by decide +kernel
theorem dX6_deed_15 : decode cX6_deed 15 = .ok (.iload_n 2, 1) := by decide +kernel
theorem dX6_deed_16 : decode cX6_deed 16 = .ok (.tableswitch 63 0 3 #[32, 39, 46, 53], 32) := by decide +kernel
theorem dX6_deed_48 : decode cX6_deed 48 = .ok (.aload_n 0, 1) := by decide +kernel
theorem dX6_deed_49 : decode cX6_deed 49 = .ok (.getfield 22, 3) := by decide +kernel
theorem dX6_deed_52 : decode cX6_deed 52 = .ok (.iload_n 1, 1) := by decide +kernel
theorem dX6_deed_53 : decode cX6_deed 53 = .ok (.iaload, 1) := by decide +kernel
theorem dX6_deed_54 : decode cX6_deed 54 = .ok (.ireturn, 1) := by decide +kernel
theorem dX6_deed_55 : decode cX6_deed 55 = .ok (.aload_n 0, 1) := by decide +kernel
theorem dX6_deed_56 : decode cX6_deed 56 = .ok (.getfield 25, 3) := by decide +kernel
theorem dX6_deed_59 : decode cX6_deed 59 = .ok (.iload_n 1, 1) := by decide +kernel
theorem dX6_deed_60 : decode cX6_deed 60 = .ok (.iaload, 1) := by decide +kernel
theorem dX6_deed_61 : decode cX6_deed 61 = .ok (.ireturn, 1) := by decide +kernel
theorem dX6_deed_62 : decode cX6_deed 62 = .ok (.aload_n 0, 1) := by decide +kernel
theorem dX6_deed_63 : decode cX6_deed 63 = .ok (.getfield 28, 3) := by decide +kernel
theorem dX6_deed_66 : decode cX6_deed 66 = .ok (.iload_n 1, 1) := by decide +kernel
theorem dX6_deed_67 : decode cX6_deed 67 = .ok (.iaload, 1) := by decide +kernel
theorem dX6_deed_68 : decode cX6_deed 68 = .ok (.ireturn, 1) := by decide +kernel
theorem dX6_deed_69 : decode cX6_deed 69 = .ok (.aload_n 0, 1) := by decide +kernel
theorem dX6_deed_70 : decode cX6_deed 70 = .ok (.getfield 40, 3) := by decide +kernel
theorem dX6_deed_73 : decode cX6_deed 73 = .ok (.bipush 14, 2) := by decide +kernel
theorem dX6_deed_75 : decode cX6_deed 75 = .ok (.iload_n 1, 1) := by decide +kernel
theorem dX6_deed_76 : decode cX6_deed 76 = .ok (.iadd, 1) := by decide +kernel
theorem dX6_deed_77 : decode cX6_deed 77 = .ok (.iaload, 1) := by decide +kernel
theorem dX6_deed_78 : decode cX6_deed 78 = .ok (.ireturn, 1) := by decide +kernel
theorem dX6_deed_79 : decode cX6_deed 79 = .ok (.bipush (-2), 2) := by decide +kernel
theorem dX6_deed_81 : decode cX6_deed 81 = .ok (.ireturn, 1) := by decide +kernel
theorem dX6_note_0 : decode cX6_note 0 = .ok (.aload_n 0, 1) := by decide +kernel
theorem dX6_note_1 : decode cX6_note 1 = .ok (.getfield 126, 3) := by decide +kernel
theorem dX6_note_4 : decode cX6_note 4 = .ok (.bipush 14, 2) := by decide +kernel
theorem dX6_note_6 : decode cX6_note 6 = .ok (.if_icmp .ne 43, 3) := by decide +kernel
theorem dX6_note_9 : decode cX6_note 9 = .ok (.iconst 0, 1) := by decide +kernel
theorem dX6_note_10 : decode cX6_note 10 = .ok (.istore_n 1, 1) := by decide +kernel
theorem dX6_note_11 : decode cX6_note 11 = .ok (.iload_n 1, 1) := by decide +kernel
theorem dX6_note_12 : decode cX6_note 12 = .ok (.sipush 260, 3) := by decide +kernel
theorem dX6_note_15 : decode cX6_note 15 = .ok (.if_icmp .ge 24, 3) := by decide +kernel
theorem dX6_note_18 : decode cX6_note 18 = .ok (.aload_n 0, 1) := by decide +kernel
theorem dX6_note_19 : decode cX6_note 19 = .ok (.getfield 46, 3) := by decide +kernel
theorem dX6_note_22 : decode cX6_note 22 = .ok (.iload_n 1, 1) := by decide +kernel
theorem dX6_note_23 : decode cX6_note 23 = .ok (.aload_n 0, 1) := by decide +kernel
theorem dX6_note_24 : decode cX6_note 24 = .ok (.getfield 46, 3) := by decide +kernel
theorem dX6_note_27 : decode cX6_note 27 = .ok (.iload_n 1, 1) := by decide +kernel
theorem dX6_note_28 : decode cX6_note 28 = .ok (.bipush 20, 2) := by decide +kernel
theorem dX6_note_30 : decode cX6_note 30 = .ok (.iadd, 1) := by decide +kernel
theorem dX6_note_31 : decode cX6_note 31 = .ok (.iaload, 1) := by decide +kernel
theorem dX6_note_32 : decode cX6_note 32 = .ok (.iastore, 1) := by decide +kernel
theorem dX6_note_33 : decode cX6_note 33 = .ok (.iinc 1 1, 3) := by decide +kernel
theorem dX6_note_36 : decode cX6_note 36 = .ok (.goto (-25), 3) := by decide +kernel
theorem dX6_note_39 : decode cX6_note 39 = .ok (.aload_n 0, 1) := by decide +kernel
theorem dX6_note_40 : decode cX6_note 40 = .ok (.dup, 1) := by decide +kernel
theorem dX6_note_41 : decode cX6_note 41 = .ok (.getfield 126, 3) := by decide +kernel
theorem dX6_note_44 : decode cX6_note 44 = .ok (.iconst 1, 1) := by decide +kernel
theorem dX6_note_45 : decode cX6_note 45 = .ok (.isub, 1) := by decide +kernel
theorem dX6_note_46 : decode cX6_note 46 = .ok (.putfield 126, 3) := by decide +kernel
theorem dX6_note_49 : decode cX6_note 49 = .ok (.iconst 0, 1) := by decide +kernel
theorem dX6_note_50 : decode cX6_note 50 = .ok (.istore_n 1, 1) := by decide +kernel
theorem dX6_note_51 : decode cX6_note 51 = .ok (.iload_n 1, 1) := by decide +kernel
theorem dX6_note_52 : decode cX6_note 52 = .ok (.bipush 20, 2) := by decide +kernel
theorem dX6_note_54 : decode cX6_note 54 = .ok (.if_icmp .ge 29, 3) := by decide +kernel
theorem dX6_note_57 : decode cX6_note 57 = .ok (.aload_n 0, 1) := by decide +kernel
theorem dX6_note_58 : decode cX6_note 58 = .ok (.getfield 46, 3) := by decide +kernel
theorem dX6_note_61 : decode cX6_note 61 = .ok (.bipush 20, 2) := by decide +kernel
theorem dX6_note_63 : decode cX6_note 63 = .ok (.aload_n 0, 1) := by decide +kernel
theorem dX6_note_64 : decode cX6_note 64 = .ok (.getfield 126, 3) := by decide +kernel
theorem dX6_note_67 : decode cX6_note 67 = .ok (.imul, 1) := by decide +kernel
theorem dX6_note_68 : decode cX6_note 68 = .ok (.iload_n 1, 1) := by decide +kernel
theorem dX6_note_69 : decode cX6_note 69 = .ok (.iadd, 1) := by decide +kernel
theorem dX6_note_70 : decode cX6_note 70 = .ok (.aload_n 0, 1) := by decide +kernel
theorem dX6_note_71 : decode cX6_note 71 = .ok (.getfield 40, 3) := by decide +kernel
theorem dX6_note_74 : decode cX6_note 74 = .ok (.iload_n 1, 1) := by decide +kernel
theorem dX6_note_75 : decode cX6_note 75 = .ok (.iaload, 1) := by decide +kernel
theorem dX6_note_76 : decode cX6_note 76 = .ok (.iastore, 1) := by decide +kernel
theorem dX6_note_77 : decode cX6_note 77 = .ok (.iinc 1 1, 3) := by decide +kernel
theorem dX6_note_80 : decode cX6_note 80 = .ok (.goto (-29), 3) := by decide +kernel
theorem dX6_note_83 : decode cX6_note 83 = .ok (.aload_n 0, 1) := by decide +kernel
theorem dX6_note_84 : decode cX6_note 84 = .ok (.dup, 1) := by decide +kernel
theorem dX6_note_85 : decode cX6_note 85 = .ok (.getfield 126, 3) := by decide +kernel
theorem dX6_note_88 : decode cX6_note 88 = .ok (.iconst 1, 1) := by decide +kernel
theorem dX6_note_89 : decode cX6_note 89 = .ok (.iadd, 1) := by decide +kernel
theorem dX6_note_90 : decode cX6_note 90 = .ok (.putfield 126, 3) := by decide +kernel
theorem dX6_note_93 : decode cX6_note 93 = .ok (.return_, 1) := by decide +kernel
theorem dX6_day_0 : decode cX6_day 0 = .ok (.aload_n 0, 1) := by decide +kernel
theorem dX6_day_1 : decode cX6_day 1 = .ok (.iconst 0, 1) := by decide +kernel
theorem dX6_day_2 : decode cX6_day 2 = .ok (.putfield 68, 3) := by decide +kernel
theorem dX6_day_5 : decode cX6_day 5 = .ok (.aload_n 0, 1) := by decide +kernel
theorem dX6_day_6 : decode cX6_day 6 = .ok (.invokevirtual 167, 3) := by decide +kernel
theorem dX6_day_9 : decode cX6_day 9 = .ok (.aload_n 0, 1) := by decide +kernel
theorem dX6_day_10 : decode cX6_day 10 = .ok (.aload_n 0, 1) := by decide +kernel
theorem dX6_day_11 : decode cX6_day 11 = .ok (.getfield 40, 3) := by decide +kernel
theorem dX6_day_14 : decode cX6_day 14 = .ok (.invokevirtual 133, 3) := by decide +kernel
theorem dX6_day_17 : decode cX6_day 17 = .ok (.ireturn, 1) := by decide +kernel
theorem dX6_canPledge_0 : decode cX6_canPledge 0 = .ok (.aload_n 1, 1) := by decide +kernel
theorem dX6_canPledge_1 : decode cX6_canPledge 1 = .ok (.iconst 4, 1) := by decide +kernel
theorem dX6_canPledge_2 : decode cX6_canPledge 2 = .ok (.iload_n 2, 1) := by decide +kernel
theorem dX6_canPledge_3 : decode cX6_canPledge 3 = .ok (.iadd, 1) := by decide +kernel
theorem dX6_canPledge_4 : decode cX6_canPledge 4 = .ok (.iaload, 1) := by decide +kernel
theorem dX6_canPledge_5 : decode cX6_canPledge 5 = .ok (.ifCond .ne 19, 3) := by decide +kernel
theorem dX6_canPledge_8 : decode cX6_canPledge 8 = .ok (.aload_n 1, 1) := by decide +kernel
theorem dX6_canPledge_9 : decode cX6_canPledge 9 = .ok (.iconst 0, 1) := by decide +kernel
theorem dX6_canPledge_10 : decode cX6_canPledge 10 = .ok (.iaload, 1) := by decide +kernel
theorem dX6_canPledge_11 : decode cX6_canPledge 11 = .ok (.aload_n 0, 1) := by decide +kernel
theorem dX6_canPledge_12 : decode cX6_canPledge 12 = .ok (.getfield 16, 3) := by decide +kernel
theorem dX6_canPledge_15 : decode cX6_canPledge 15 = .ok (.iload_n 2, 1) := by decide +kernel
theorem dX6_canPledge_16 : decode cX6_canPledge 16 = .ok (.iaload, 1) := by decide +kernel
theorem dX6_canPledge_17 : decode cX6_canPledge 17 = .ok (.if_icmp .lt 7, 3) := by decide +kernel
theorem dX6_canPledge_20 : decode cX6_canPledge 20 = .ok (.iconst 1, 1) := by decide +kernel
theorem dX6_canPledge_21 : decode cX6_canPledge 21 = .ok (.goto 4, 3) := by decide +kernel
theorem dX6_canPledge_24 : decode cX6_canPledge 24 = .ok (.iconst 0, 1) := by decide +kernel
theorem dX6_canPledge_25 : decode cX6_canPledge 25 = .ok (.ireturn, 1) := by decide +kernel
theorem dX6_goPledge_0 : decode cX6_goPledge 0 = .ok (.aload_n 1, 1) := by decide +kernel
theorem dX6_goPledge_1 : decode cX6_goPledge 1 = .ok (.iconst 4, 1) := by decide +kernel
theorem dX6_goPledge_2 : decode cX6_goPledge 2 = .ok (.iload_n 2, 1) := by decide +kernel
theorem dX6_goPledge_3 : decode cX6_goPledge 3 = .ok (.iadd, 1) := by decide +kernel
theorem dX6_goPledge_4 : decode cX6_goPledge 4 = .ok (.iconst 1, 1) := by decide +kernel
theorem dX6_goPledge_5 : decode cX6_goPledge 5 = .ok (.iastore, 1) := by decide +kernel
theorem dX6_goPledge_6 : decode cX6_goPledge 6 = .ok (.aload_n 1, 1) := by decide +kernel
theorem dX6_goPledge_7 : decode cX6_goPledge 7 = .ok (.bipush 9, 2) := by decide +kernel
theorem dX6_goPledge_9 : decode cX6_goPledge 9 = .ok (.iload_n 2, 1) := by decide +kernel
theorem dX6_goPledge_10 : decode cX6_goPledge 10 = .ok (.iadd, 1) := by decide +kernel
theorem dX6_goPledge_11 : decode cX6_goPledge 11 = .ok (.aload_n 1, 1) := by decide +kernel
theorem dX6_goPledge_12 : decode cX6_goPledge 12 = .ok (.bipush 19, 2) := by decide +kernel
theorem dX6_goPledge_14 : decode cX6_goPledge 14 = .ok (.iaload, 1) := by decide +kernel
theorem dX6_goPledge_15 : decode cX6_goPledge 15 = .ok (.iastore, 1) := by decide +kernel
theorem dX6_goPledge_16 : decode cX6_goPledge 16 = .ok (.aload_n 1, 1) := by decide +kernel
theorem dX6_goPledge_17 : decode cX6_goPledge 17 = .ok (.iconst 0, 1) := by decide +kernel
theorem dX6_goPledge_18 : decode cX6_goPledge 18 = .ok (.dup2, 1) := by decide +kernel
theorem dX6_goPledge_19 : decode cX6_goPledge 19 = .ok (.iaload, 1) := by decide +kernel
theorem dX6_goPledge_20 : decode cX6_goPledge 20 = .ok (.aload_n 0, 1) := by decide +kernel
theorem dX6_goPledge_21 : decode cX6_goPledge 21 = .ok (.getfield 16, 3) := by decide +kernel
theorem dX6_goPledge_24 : decode cX6_goPledge 24 = .ok (.iload_n 2, 1) := by decide +kernel
theorem dX6_goPledge_25 : decode cX6_goPledge 25 = .ok (.iaload, 1) := by decide +kernel
theorem dX6_goPledge_26 : decode cX6_goPledge 26 = .ok (.isub, 1) := by decide +kernel
theorem dX6_goPledge_27 : decode cX6_goPledge 27 = .ok (.iastore, 1) := by decide +kernel
theorem dX6_goPledge_28 : decode cX6_goPledge 28 = .ok (.aload_n 1, 1) := by decide +kernel
theorem dX6_goPledge_29 : decode cX6_goPledge 29 = .ok (.iconst 1, 1) := by decide +kernel
theorem dX6_goPledge_30 : decode cX6_goPledge 30 = .ok (.aload_n 0, 1) := by decide +kernel
theorem dX6_goPledge_31 : decode cX6_goPledge 31 = .ok (.getfield 13, 3) := by decide +kernel
theorem dX6_goPledge_34 : decode cX6_goPledge 34 = .ok (.iload_n 2, 1) := by decide +kernel
theorem dX6_goPledge_35 : decode cX6_goPledge 35 = .ok (.iaload, 1) := by decide +kernel
theorem dX6_goPledge_36 : decode cX6_goPledge 36 = .ok (.iadd, 1) := by decide +kernel
theorem dX6_goPledge_37 : decode cX6_goPledge 37 = .ok (.dup2, 1) := by decide +kernel
theorem dX6_goPledge_38 : decode cX6_goPledge 38 = .ok (.iaload, 1) := by decide +kernel
theorem dX6_goPledge_39 : decode cX6_goPledge 39 = .ok (.aload_n 0, 1) := by decide +kernel
theorem dX6_goPledge_40 : decode cX6_goPledge 40 = .ok (.getfield 16, 3) := by decide +kernel
theorem dX6_goPledge_43 : decode cX6_goPledge 43 = .ok (.iload_n 2, 1) := by decide +kernel
theorem dX6_goPledge_44 : decode cX6_goPledge 44 = .ok (.iaload, 1) := by decide +kernel
theorem dX6_goPledge_45 : decode cX6_goPledge 45 = .ok (.iadd, 1) := by decide +kernel
theorem dX6_goPledge_46 : decode cX6_goPledge 46 = .ok (.iastore, 1) := by decide +kernel
theorem dX6_goPledge_47 : decode cX6_goPledge 47 = .ok (.return_, 1) := by decide +kernel
theorem dX6_pledge_0 : decode cX6_pledge 0 = .ok (.aload_n 0, 1) := by decide +kernel
theorem dX6_pledge_1 : decode cX6_pledge 1 = .ok (.iconst 0, 1) := by decide +kernel
theorem dX6_pledge_2 : decode cX6_pledge 2 = .ok (.putfield 68, 3) := by decide +kernel
theorem dX6_pledge_5 : decode cX6_pledge 5 = .ok (.aload_n 0, 1) := by decide +kernel
theorem dX6_pledge_6 : decode cX6_pledge 6 = .ok (.iload_n 1, 1) := by decide +kernel
theorem dX6_pledge_7 : decode cX6_pledge 7 = .ok (.invokevirtual 158, 3) := by decide +kernel
theorem dX6_pledge_10 : decode cX6_pledge 10 = .ok (.ifCond .eq 5, 3) := by decide +kernel
theorem dX6_pledge_13 : decode cX6_pledge 13 = .ok (.iconst (-1), 1) := by decide +kernel
theorem dX6_pledge_14 : decode cX6_pledge 14 = .ok (.ireturn, 1) := by decide +kernel
theorem dX6_pledge_15 : decode cX6_pledge 15 = .ok (.aload_n 0, 1) := by decide +kernel
theorem dX6_pledge_16 : decode cX6_pledge 16 = .ok (.aload_n 0, 1) := by decide +kernel
theorem dX6_pledge_17 : decode cX6_pledge 17 = .ok (.getfield 40, 3) := by decide +kernel
theorem dX6_pledge_20 : decode cX6_pledge 20 = .ok (.iload_n 1, 1) := by decide +kernel
theorem dX6_pledge_21 : decode cX6_pledge 21 = .ok (.invokevirtual 170, 3) := by decide +kernel
theorem dX6_pledge_24 : decode cX6_pledge 24 = .ok (.ifCond .ne 6, 3) := by decide +kernel
theorem dX6_pledge_27 : decode cX6_pledge 27 = .ok (.bipush (-3), 2) := by decide +kernel
theorem dX6_pledge_29 : decode cX6_pledge 29 = .ok (.ireturn, 1) := by decide +kernel
theorem dX6_pledge_30 : decode cX6_pledge 30 = .ok (.aload_n 0, 1) := by decide +kernel
theorem dX6_pledge_31 : decode cX6_pledge 31 = .ok (.invokevirtual 167, 3) := by decide +kernel
theorem dX6_pledge_34 : decode cX6_pledge 34 = .ok (.aload_n 0, 1) := by decide +kernel
theorem dX6_pledge_35 : decode cX6_pledge 35 = .ok (.aload_n 0, 1) := by decide +kernel
theorem dX6_pledge_36 : decode cX6_pledge 36 = .ok (.getfield 40, 3) := by decide +kernel
theorem dX6_pledge_39 : decode cX6_pledge 39 = .ok (.iload_n 1, 1) := by decide +kernel
theorem dX6_pledge_40 : decode cX6_pledge 40 = .ok (.invokevirtual 174, 3) := by decide +kernel
theorem dX6_pledge_43 : decode cX6_pledge 43 = .ok (.aload_n 0, 1) := by decide +kernel
theorem dX6_pledge_44 : decode cX6_pledge 44 = .ok (.getfield 40, 3) := by decide +kernel
theorem dX6_pledge_47 : decode cX6_pledge 47 = .ok (.iconst 0, 1) := by decide +kernel
theorem dX6_pledge_48 : decode cX6_pledge 48 = .ok (.iaload, 1) := by decide +kernel
theorem dX6_pledge_49 : decode cX6_pledge 49 = .ok (.ireturn, 1) := by decide +kernel
theorem dX6_canRedeem_0 : decode cX6_canRedeem 0 = .ok (.aload_n 1, 1) := by decide +kernel
theorem dX6_canRedeem_1 : decode cX6_canRedeem 1 = .ok (.iconst 4, 1) := by decide +kernel
theorem dX6_canRedeem_2 : decode cX6_canRedeem 2 = .ok (.iload_n 2, 1) := by decide +kernel
theorem dX6_canRedeem_3 : decode cX6_canRedeem 3 = .ok (.iadd, 1) := by decide +kernel
theorem dX6_canRedeem_4 : decode cX6_canRedeem 4 = .ok (.iaload, 1) := by decide +kernel
theorem dX6_canRedeem_5 : decode cX6_canRedeem 5 = .ok (.iconst 1, 1) := by decide +kernel
theorem dX6_canRedeem_6 : decode cX6_canRedeem 6 = .ok (.if_icmp .ne 26, 3) := by decide +kernel
theorem dX6_canRedeem_9 : decode cX6_canRedeem 9 = .ok (.aload_n 1, 1) := by decide +kernel
theorem dX6_canRedeem_10 : decode cX6_canRedeem 10 = .ok (.iconst 1, 1) := by decide +kernel
theorem dX6_canRedeem_11 : decode cX6_canRedeem 11 = .ok (.aload_n 0, 1) := by decide +kernel
theorem dX6_canRedeem_12 : decode cX6_canRedeem 12 = .ok (.getfield 13, 3) := by decide +kernel
theorem dX6_canRedeem_15 : decode cX6_canRedeem 15 = .ok (.iload_n 2, 1) := by decide +kernel
theorem dX6_canRedeem_16 : decode cX6_canRedeem 16 = .ok (.iaload, 1) := by decide +kernel
theorem dX6_canRedeem_17 : decode cX6_canRedeem 17 = .ok (.iadd, 1) := by decide +kernel
theorem dX6_canRedeem_18 : decode cX6_canRedeem 18 = .ok (.iaload, 1) := by decide +kernel
theorem dX6_canRedeem_19 : decode cX6_canRedeem 19 = .ok (.aload_n 0, 1) := by decide +kernel
theorem dX6_canRedeem_20 : decode cX6_canRedeem 20 = .ok (.aload_n 1, 1) := by decide +kernel
theorem dX6_canRedeem_21 : decode cX6_canRedeem 21 = .ok (.iload_n 2, 1) := by decide +kernel
theorem dX6_canRedeem_22 : decode cX6_canRedeem 22 = .ok (.invokevirtual 161, 3) := by decide +kernel
theorem dX6_canRedeem_25 : decode cX6_canRedeem 25 = .ok (.if_icmp .lt 7, 3) := by decide +kernel
theorem dX6_canRedeem_28 : decode cX6_canRedeem 28 = .ok (.iconst 1, 1) := by decide +kernel
theorem dX6_canRedeem_29 : decode cX6_canRedeem 29 = .ok (.goto 4, 3) := by decide +kernel
theorem dX6_canRedeem_32 : decode cX6_canRedeem 32 = .ok (.iconst 0, 1) := by decide +kernel
theorem dX6_canRedeem_33 : decode cX6_canRedeem 33 = .ok (.ireturn, 1) := by decide +kernel
theorem dX6_goRedeem_0 : decode cX6_goRedeem 0 = .ok (.aload_n 0, 1) := by decide +kernel
theorem dX6_goRedeem_1 : decode cX6_goRedeem 1 = .ok (.aload_n 1, 1) := by decide +kernel
theorem dX6_goRedeem_2 : decode cX6_goRedeem 2 = .ok (.iload_n 2, 1) := by decide +kernel
theorem dX6_goRedeem_3 : decode cX6_goRedeem 3 = .ok (.invokevirtual 161, 3) := by decide +kernel
theorem dX6_goRedeem_6 : decode cX6_goRedeem 6 = .ok (.istore_n 3, 1) := by decide +kernel
