theorem dX6_closes_2 : decode cX6_closes 2 = .ok (.getfield 22, 3) := by decide +kernel
theorem dX6_closes_5 : decode cX6_closes 5 = .ok (.iload_n 1, 1) := by decide +kernel
theorem dX6_closes_6 : decode cX6_closes 6 = .ok (.iaload, 1) := by decide +kernel
theorem dX6_closes_7 : decode cX6_closes 7 = .ok (.iload_n 1, 1) := by decide +kernel
theorem dX6_closes_8 : decode cX6_closes 8 = .ok (.invokevirtual 124, 3) := by decide +kernel
theorem dX6_closes_11 : decode cX6_closes 11 = .ok (.iconst 1, 1) := by decide +kernel
theorem dX6_closes_12 : decode cX6_closes 12 = .ok (.istore_n 2, 1) := by decide +kernel
theorem dX6_closes_13 : decode cX6_closes 13 = .ok (.iload_n 2, 1) := by decide +kernel
theorem dX6_closes_14 : decode cX6_closes 14 = .ok (.aload_n 0, 1) := by decide +kernel
theorem dX6_closes_15 : decode cX6_closes 15 = .ok (.getfield 77, 3) := by decide +kernel
theorem dX6_closes_18 : decode cX6_closes 18 = .ok (.if_icmp .ge 50, 3) := by decide +kernel
theorem dX6_closes_21 : decode cX6_closes 21 = .ok (.bipush 60, 2) := by decide +kernel
theorem dX6_closes_23 : decode cX6_closes 23 = .ok (.iload_n 2, 1) := by decide +kernel
theorem dX6_closes_24 : decode cX6_closes 24 = .ok (.imul, 1) := by decide +kernel
theorem dX6_closes_25 : decode cX6_closes 25 = .ok (.aload_n 0, 1) := by decide +kernel
theorem dX6_closes_26 : decode cX6_closes 26 = .ok (.getfield 25, 3) := by decide +kernel
theorem dX6_closes_29 : decode cX6_closes 29 = .ok (.iload_n 1, 1) := by decide +kernel
theorem dX6_closes_30 : decode cX6_closes 30 = .ok (.iaload, 1) := by decide +kernel
theorem dX6_closes_31 : decode cX6_closes 31 = .ok (.iadd, 1) := by decide +kernel
theorem dX6_closes_32 : decode cX6_closes 32 = .ok (.istore_n 3, 1) := by decide +kernel
theorem dX6_closes_33 : decode cX6_closes 33 = .ok (.aload_n 0, 1) := by decide +kernel
theorem dX6_closes_34 : decode cX6_closes 34 = .ok (.getfield 65, 3) := by decide +kernel
theorem dX6_closes_37 : decode cX6_closes 37 = .ok (.iload_n 3, 1) := by decide +kernel
theorem dX6_closes_38 : decode cX6_closes 38 = .ok (.baload, 1) := by decide +kernel
theorem dX6_closes_39 : decode cX6_closes 39 = .ok (.ifCond .ne 21, 3) := by decide +kernel
theorem dX6_closes_42 : decode cX6_closes 42 = .ok (.aload_n 0, 1) := by decide +kernel
theorem dX6_closes_43 : decode cX6_closes 43 = .ok (.getfield 28, 3) := by decide +kernel
theorem dX6_closes_46 : decode cX6_closes 46 = .ok (.iload_n 1, 1) := by decide +kernel
theorem dX6_closes_47 : decode cX6_closes 47 = .ok (.iaload, 1) := by decide +kernel
theorem dX6_closes_48 : decode cX6_closes 48 = .ok (.ifCond .le 14, 3) := by decide +kernel
theorem dX6_closes_51 : decode cX6_closes 51 = .ok (.aload_n 0, 1) := by decide +kernel
theorem dX6_closes_52 : decode cX6_closes 52 = .ok (.getfield 62, 3) := by decide +kernel
theorem dX6_closes_55 : decode cX6_closes 55 = .ok (.iload_n 3, 1) := by decide +kernel
theorem dX6_closes_56 : decode cX6_closes 56 = .ok (.baload, 1) := by decide +kernel
theorem dX6_closes_57 : decode cX6_closes 57 = .ok (.ifCond .eq 5, 3) := by decide +kernel
theorem dX6_closes_60 : decode cX6_closes 60 = .ok (.iload_n 2, 1) := by decide +kernel
theorem dX6_closes_61 : decode cX6_closes 61 = .ok (.ireturn, 1) := by decide +kernel
theorem dX6_closes_62 : decode cX6_closes 62 = .ok (.iinc 2 1, 3) := by decide +kernel
theorem dX6_closes_65 : decode cX6_closes 65 = .ok (.goto (-52), 3) := by decide +kernel
theorem dX6_closes_68 : decode cX6_closes 68 = .ok (.iconst (-1), 1) := by decide +kernel
theorem dX6_closes_69 : decode cX6_closes 69 = .ok (.ireturn, 1) := by decide +kernel
set_option maxRecDepth 20000 in
theorem ggX6_rings_X6_areThere : GoodIn wsX6_rings wsX6_areThere := goodIn_r _ [14, 7, 5, 15, 16, 17, 13, 18, 19, 20, 34, 35, 36, 37, 38, 39, 40, 41, 42, 43, 44, 45, 46, 47, 48, 49, 50, 51, 52, 53, 54, 55, 56, 57, 58, 59] (by decide +kernel) (by decide +kernel)
set_option maxRecDepth 20000 in
theorem gX6_rings_X6_areThere : GoodIn wsX6_rings (wsV RX6 100 RX6 yX6_areThere wsX6_areThere) := goodIn_app (goodIn_of _ (by decide +kernel)) ggX6_rings_X6_areThere
set_option maxRecDepth 20000 in
theorem ggX6_rings_X6_closes : GoodIn wsX6_rings wsX6_closes := goodIn_r _ [24, 7, 25, 5, 8, 6, 9, 26, 27, 28, 13, 29, 1, 30, 31, 32, 33, 2, 10, 11, 12, 14, 15, 16, 17, 18, 19, 20, 34, 35, 36, 37, 38, 39, 40, 41, 42, 43, 44, 45, 46, 47, 48, 49, 50, 51, 52, 53, 54, 55, 56, 57, 58, 59] (by decide +kernel) (by decide +kernel)
set_option maxRecDepth 20000 in
theorem gX6_rings_X6_closes : GoodIn wsX6_rings (wsV RX6 128 RX6 yX6_closes wsX6_closes) := goodIn_app (goodIn_of _ (by decide +kernel)) ggX6_rings_X6_closes
set_option maxRecDepth 20000 in
theorem ggX6_rings_X6_isFor : GoodIn wsX6_rings wsX6_isFor := goodIn_r _ [33, 2, 10, 11, 12, 13, 14, 7, 5, 15, 16, 17, 18, 19, 20, 34, 35, 36, 37, 38, 39, 40, 41, 42, 43, 44, 45, 46, 47, 48, 49, 50, 51, 52, 53, 54, 55, 56, 57, 58, 59] (by decide +kernel) (by decide +kernel)
set_option maxRecDepth 20000 in
theorem gX6_rings_X6_isFor : GoodIn wsX6_rings (wsV RX6 120 RX6 yX6_isFor wsX6_isFor) := goodIn_app (goodIn_of _ (by decide +kernel)) ggX6_rings_X6_isFor
theorem dX6_rings_0 : decode cX6_rings 0 = .ok (.iconst (-1), 1) := by decide +kernel
theorem dX6_rings_1 : decode cX6_rings 1 = .ok (.istore_n 1, 1) := by decide +kernel
theorem dX6_rings_2 : decode cX6_rings 2 = .ok (.iconst 0, 1) := by decide +kernel
theorem dX6_rings_3 : decode cX6_rings 3 = .ok (.istore_n 2, 1) := by decide +kernel
theorem dX6_rings_4 : decode cX6_rings 4 = .ok (.iconst 0, 1) := by decide +kernel
theorem dX6_rings_5 : decode cX6_rings 5 = .ok (.istore_n 3, 1) := by decide +kernel
theorem dX6_rings_6 : decode cX6_rings 6 = .ok (.iload_n 3, 1) := by decide +kernel
theorem dX6_rings_7 : decode cX6_rings 7 = .ok (.aload_n 0, 1) := by decide +kernel
theorem dX6_rings_8 : decode cX6_rings 8 = .ok (.getfield 81, 3) := by decide +kernel
theorem dX6_rings_11 : decode cX6_rings 11 = .ok (.if_icmp .ge 61, 3) := by decide +kernel
theorem dX6_rings_14 : decode cX6_rings 14 = .ok (.aload_n 0, 1) := by decide +kernel
theorem dX6_rings_15 : decode cX6_rings 15 = .ok (.getfield 31, 3) := by decide +kernel
theorem dX6_rings_18 : decode cX6_rings 18 = .ok (.iload_n 3, 1) := by decide +kernel
theorem dX6_rings_19 : decode cX6_rings 19 = .ok (.baload, 1) := by decide +kernel
theorem dX6_rings_20 : decode cX6_rings 20 = .ok (.ifCond .eq 46, 3) := by decide +kernel
theorem dX6_rings_23 : decode cX6_rings 23 = .ok (.aload_n 0, 1) := by decide +kernel
theorem dX6_rings_24 : decode cX6_rings 24 = .ok (.iload_n 3, 1) := by decide +kernel
theorem dX6_rings_25 : decode cX6_rings 25 = .ok (.invokevirtual 100, 3) := by decide +kernel
theorem dX6_rings_28 : decode cX6_rings 28 = .ok (.ifCond .ne 6, 3) := by decide +kernel
theorem dX6_rings_31 : decode cX6_rings 31 = .ok (.goto 35, 3) := by decide +kernel
theorem dX6_rings_34 : decode cX6_rings 34 = .ok (.aload_n 0, 1) := by decide +kernel
theorem dX6_rings_35 : decode cX6_rings 35 = .ok (.iload_n 3, 1) := by decide +kernel
theorem dX6_rings_36 : decode cX6_rings 36 = .ok (.invokevirtual 128, 3) := by decide +kernel
theorem dX6_rings_39 : decode cX6_rings 39 = .ok (.istore 4, 2) := by decide +kernel
theorem dX6_rings_41 : decode cX6_rings 41 = .ok (.iload 4, 2) := by decide +kernel
theorem dX6_rings_43 : decode cX6_rings 43 = .ok (.iconst (-1), 1) := by decide +kernel
theorem dX6_rings_44 : decode cX6_rings 44 = .ok (.if_icmp .eq 22, 3) := by decide +kernel
theorem dX6_rings_47 : decode cX6_rings 47 = .ok (.iload_n 1, 1) := by decide +kernel
theorem dX6_rings_48 : decode cX6_rings 48 = .ok (.iconst (-1), 1) := by decide +kernel
theorem dX6_rings_49 : decode cX6_rings 49 = .ok (.if_icmp .eq 12, 3) := by decide +kernel
theorem dX6_rings_52 : decode cX6_rings 52 = .ok (.iload 4, 2) := by decide +kernel
theorem dX6_rings_54 : decode cX6_rings 54 = .ok (.iload_n 2, 1) := by decide +kernel
theorem dX6_rings_55 : decode cX6_rings 55 = .ok (.if_icmp .lt 6, 3) := by decide +kernel
theorem dX6_rings_58 : decode cX6_rings 58 = .ok (.goto 8, 3) := by decide +kernel
theorem dX6_rings_61 : decode cX6_rings 61 = .ok (.iload_n 3, 1) := by decide +kernel
theorem dX6_rings_62 : decode cX6_rings 62 = .ok (.istore_n 1, 1) := by decide +kernel
theorem dX6_rings_63 : decode cX6_rings 63 = .ok (.iload 4, 2) := by decide +kernel
theorem dX6_rings_65 : decode cX6_rings 65 = .ok (.istore_n 2, 1) := by decide +kernel
theorem dX6_rings_66 : decode cX6_rings 66 = .ok (.iinc 3 1, 3) := by decide +kernel
theorem dX6_rings_69 : decode cX6_rings 69 = .ok (.goto (-63), 3) := by decide +kernel
theorem dX6_rings_72 : decode cX6_rings 72 = .ok (.aload_n 0, 1) := by decide +kernel
theorem dX6_rings_73 : decode cX6_rings 73 = .ok (.iconst 0, 1) := by decide +kernel
theorem dX6_rings_74 : decode cX6_rings 74 = .ok (.putfield 131, 3) := by decide +kernel
theorem dX6_rings_77 : decode cX6_rings 77 = .ok (.iload_n 1, 1) := by decide +kernel
theorem dX6_rings_78 : decode cX6_rings 78 = .ok (.iconst (-1), 1) := by decide +kernel
theorem dX6_rings_79 : decode cX6_rings 79 = .ok (.if_icmp .ne 4, 3) := by decide +kernel
theorem dX6_rings_82 : decode cX6_rings 82 = .ok (.return_, 1) := by decide +kernel
theorem dX6_rings_83 : decode cX6_rings 83 = .ok (.aload_n 0, 1) := by decide +kernel
theorem dX6_rings_84 : decode cX6_rings 84 = .ok (.iload_n 1, 1) := by decide +kernel
theorem dX6_rings_85 : decode cX6_rings 85 = .ok (.invokevirtual 128, 3) := by decide +kernel
theorem dX6_rings_88 : decode cX6_rings 88 = .ok (.pop, 1) := by decide +kernel
theorem dX6_rings_89 : decode cX6_rings 89 = .ok (.aload_n 0, 1) := by decide +kernel
theorem dX6_rings_90 : decode cX6_rings 90 = .ok (.getfield 68, 3) := by decide +kernel
theorem dX6_rings_93 : decode cX6_rings 93 = .ok (.iconst 0, 1) := by decide +kernel
theorem dX6_rings_94 : decode cX6_rings 94 = .ok (.iload_n 1, 1) := by decide +kernel
theorem dX6_rings_95 : decode cX6_rings 95 = .ok (.iastore, 1) := by decide +kernel
theorem dX6_rings_96 : decode cX6_rings 96 = .ok (.aload_n 0, 1) := by decide +kernel
theorem dX6_rings_97 : decode cX6_rings 97 = .ok (.iload_n 2, 1) := by decide +kernel
theorem dX6_rings_98 : decode cX6_rings 98 = .ok (.iconst 1, 1) := by decide +kernel
theorem dX6_rings_99 : decode cX6_rings 99 = .ok (.iadd, 1) := by decide +kernel
theorem dX6_rings_100 : decode cX6_rings 100 = .ok (.putfield 131, 3) := by decide +kernel
theorem dX6_rings_103 : decode cX6_rings 103 = .ok (.aload_n 0, 1) := by decide +kernel
theorem dX6_rings_104 : decode cX6_rings 104 = .ok (.getfield 25, 3) := by decide +kernel
theorem dX6_rings_107 : decode cX6_rings 107 = .ok (.iload_n 1, 1) := by decide +kernel
theorem dX6_rings_108 : decode cX6_rings 108 = .ok (.iaload, 1) := by decide +kernel
theorem dX6_rings_109 : decode cX6_rings 109 = .ok (.istore_n 3, 1) := by decide +kernel
theorem dX6_rings_110 : decode cX6_rings 110 = .ok (.aload_n 0, 1) := by decide +kernel
theorem dX6_rings_111 : decode cX6_rings 111 = .ok (.getfield 28, 3) := by decide +kernel
theorem dX6_rings_114 : decode cX6_rings 114 = .ok (.iload_n 1, 1) := by decide +kernel
theorem dX6_rings_115 : decode cX6_rings 115 = .ok (.iaload, 1) := by decide +kernel
theorem dX6_rings_116 : decode cX6_rings 116 = .ok (.ifCond .le 7, 3) := by decide +kernel
theorem dX6_rings_119 : decode cX6_rings 119 = .ok (.iconst 1, 1) := by decide +kernel
theorem dX6_rings_120 : decode cX6_rings 120 = .ok (.goto 4, 3) := by decide +kernel
theorem dX6_rings_123 : decode cX6_rings 123 = .ok (.iconst 0, 1) := by decide +kernel
theorem dX6_rings_124 : decode cX6_rings 124 = .ok (.istore 4, 2) := by decide +kernel
theorem dX6_rings_126 : decode cX6_rings 126 = .ok (.iconst 1, 1) := by decide +kernel
theorem dX6_rings_127 : decode cX6_rings 127 = .ok (.istore 5, 2) := by decide +kernel
theorem dX6_rings_129 : decode cX6_rings 129 = .ok (.iload 5, 2) := by decide +kernel
theorem dX6_rings_131 : decode cX6_rings 131 = .ok (.iload_n 2, 1) := by decide +kernel
theorem dX6_rings_132 : decode cX6_rings 132 = .ok (.if_icmp .gt 141, 3) := by decide +kernel
theorem dX6_rings_135 : decode cX6_rings 135 = .ok (.bipush 60, 2) := by decide +kernel
theorem dX6_rings_137 : decode cX6_rings 137 = .ok (.iload_n 2, 1) := by decide +kernel
theorem dX6_rings_138 : decode cX6_rings 138 = .ok (.iload 5, 2) := by decide +kernel
theorem dX6_rings_140 : decode cX6_rings 140 = .ok (.isub, 1) := by decide +kernel
theorem dX6_rings_141 : decode cX6_rings 141 = .ok (.imul, 1) := by decide +kernel
theorem dX6_rings_142 : decode cX6_rings 142 = .ok (.istore 6, 2) := by decide +kernel
theorem dX6_rings_144 : decode cX6_rings 144 = .ok (.iconst 0, 1) := by decide +kernel
theorem dX6_rings_145 : decode cX6_rings 145 = .ok (.istore 7, 2) := by decide +kernel
theorem dX6_rings_147 : decode cX6_rings 147 = .ok (.aload_n 0, 1) := by decide +kernel
theorem dX6_rings_148 : decode cX6_rings 148 = .ok (.iload 7, 2) := by decide +kernel
theorem dX6_rings_150 : decode cX6_rings 150 = .ok (.iload_n 1, 1) := by decide +kernel
theorem dX6_rings_151 : decode cX6_rings 151 = .ok (.invokevirtual 120, 3) := by decide +kernel
theorem dX6_rings_154 : decode cX6_rings 154 = .ok (.ifCond .eq 65, 3) := by decide +kernel
theorem dX6_rings_157 : decode cX6_rings 157 = .ok (.aload_n 0, 1) := by decide +kernel
theorem dX6_rings_158 : decode cX6_rings 158 = .ok (.getfield 22, 3) := by decide +kernel
theorem dX6_rings_161 : decode cX6_rings 161 = .ok (.iload 7, 2) := by decide +kernel
theorem dX6_rings_163 : decode cX6_rings 163 = .ok (.iaload, 1) := by decide +kernel
theorem dX6_rings_164 : decode cX6_rings 164 = .ok (.iload_n 3, 1) := by decide +kernel
theorem dX6_rings_165 : decode cX6_rings 165 = .ok (.if_icmp .ne 54, 3) := by decide +kernel
theorem dX6_rings_168 : decode cX6_rings 168 = .ok (.aload_n 0, 1) := by decide +kernel
theorem dX6_rings_169 : decode cX6_rings 169 = .ok (.getfield 65, 3) := by decide +kernel
theorem dX6_rings_172 : decode cX6_rings 172 = .ok (.iload 6, 2) := by decide +kernel
theorem dX6_rings_174 : decode cX6_rings 174 = .ok (.aload_n 0, 1) := by decide +kernel
theorem dX6_rings_175 : decode cX6_rings 175 = .ok (.getfield 25, 3) := by decide +kernel
theorem dX6_rings_178 : decode cX6_rings 178 = .ok (.iload 7, 2) := by decide +kernel
theorem dX6_rings_180 : decode cX6_rings 180 = .ok (.iaload, 1) := by decide +kernel
theorem dX6_rings_181 : decode cX6_rings 181 = .ok (.iadd, 1) := by decide +kernel
theorem dX6_rings_182 : decode cX6_rings 182 = .ok (.baload, 1) := by decide +kernel
theorem dX6_rings_183 : decode cX6_rings 183 = .ok (.ifCond .ne 45, 3) := by decide +kernel
theorem dX6_rings_186 : decode cX6_rings 186 = .ok (.iload 4, 2) := by decide +kernel
theorem dX6_rings_188 : decode cX6_rings 188 = .ok (.ifCond .ne 13, 3) := by decide +kernel
theorem dX6_rings_191 : decode cX6_rings 191 = .ok (.aload_n 0, 1) := by decide +kernel
theorem dX6_rings_192 : decode cX6_rings 192 = .ok (.getfield 28, 3) := by decide +kernel
theorem dX6_rings_195 : decode cX6_rings 195 = .ok (.iload 7, 2) := by decide +kernel
theorem dX6_rings_197 : decode cX6_rings 197 = .ok (.iaload, 1) := by decide +kernel
theorem dX6_rings_198 : decode cX6_rings 198 = .ok (.ifCond .le 21, 3) := by decide +kernel
theorem dX6_rings_201 : decode cX6_rings 201 = .ok (.aload_n 0, 1) := by decide +kernel
theorem dX6_rings_202 : decode cX6_rings 202 = .ok (.getfield 62, 3) := by decide +kernel
theorem dX6_rings_205 : decode cX6_rings 205 = .ok (.iload 6, 2) := by decide +kernel
theorem dX6_rings_207 : decode cX6_rings 207 = .ok (.aload_n 0, 1) := by decide +kernel
theorem dX6_rings_208 : decode cX6_rings 208 = .ok (.getfield 25, 3) := by decide +kernel
theorem dX6_rings_211 : decode cX6_rings 211 = .ok (.iload 7, 2) := by decide +kernel
theorem dX6_rings_213 : decode cX6_rings 213 = .ok (.iaload, 1) := by decide +kernel
theorem dX6_rings_214 : decode cX6_rings 214 = .ok (.iadd, 1) := by decide +kernel
theorem dX6_rings_215 : decode cX6_rings 215 = .ok (.baload, 1) := by decide +kernel
theorem dX6_rings_216 : decode cX6_rings 216 = .ok (.ifCond .ne 12, 3) := by decide +kernel
theorem dX6_rings_219 : decode cX6_rings 219 = .ok (.iload 7, 2) := by decide +kernel
theorem dX6_rings_221 : decode cX6_rings 221 = .ok (.iconst 1, 1) := by decide +kernel
theorem dX6_rings_222 : decode cX6_rings 222 = .ok (.iadd, 1) := by decide +kernel
theorem dX6_rings_223 : decode cX6_rings 223 = .ok (.istore 7, 2) := by decide +kernel
theorem dX6_rings_225 : decode cX6_rings 225 = .ok (.goto (-78), 3) := by decide +kernel
theorem dX6_rings_228 : decode cX6_rings 228 = .ok (.aload_n 0, 1) := by decide +kernel
theorem dX6_rings_229 : decode cX6_rings 229 = .ok (.getfield 68, 3) := by decide +kernel
theorem dX6_rings_232 : decode cX6_rings 232 = .ok (.iload 5, 2) := by decide +kernel
theorem dX6_rings_234 : decode cX6_rings 234 = .ok (.iload 7, 2) := by decide +kernel
theorem dX6_rings_236 : decode cX6_rings 236 = .ok (.iastore, 1) := by decide +kernel
theorem dX6_rings_237 : decode cX6_rings 237 = .ok (.iload 4, 2) := by decide +kernel
theorem dX6_rings_239 : decode cX6_rings 239 = .ok (.ifCond .ne 13, 3) := by decide +kernel
theorem dX6_rings_242 : decode cX6_rings 242 = .ok (.aload_n 0, 1) := by decide +kernel
theorem dX6_rings_243 : decode cX6_rings 243 = .ok (.getfield 28, 3) := by decide +kernel
theorem dX6_rings_246 : decode cX6_rings 246 = .ok (.iload 7, 2) := by decide +kernel
theorem dX6_rings_248 : decode cX6_rings 248 = .ok (.iaload, 1) := by decide +kernel
theorem dX6_rings_249 : decode cX6_rings 249 = .ok (.ifCond .le 7, 3) := by decide +kernel
theorem dX6_rings_252 : decode cX6_rings 252 = .ok (.iconst 1, 1) := by decide +kernel
theorem dX6_rings_253 : decode cX6_rings 253 = .ok (.goto 4, 3) := by decide +kernel
theorem dX6_rings_256 : decode cX6_rings 256 = .ok (.iconst 0, 1) := by decide +kernel
theorem dX6_rings_257 : decode cX6_rings 257 = .ok (.istore 4, 2) := by decide +kernel
theorem dX6_rings_259 : decode cX6_rings 259 = .ok (.aload_n 0, 1) := by decide +kernel
theorem dX6_rings_260 : decode cX6_rings 260 = .ok (.getfield 25, 3) := by decide +kernel
theorem dX6_rings_263 : decode cX6_rings 263 = .ok (.iload 7, 2) := by decide +kernel
theorem dX6_rings_265 : decode cX6_rings 265 = .ok (.iaload, 1) := by decide +kernel
theorem dX6_rings_266 : decode cX6_rings 266 = .ok (.istore_n 3, 1) := by decide +kernel
theorem dX6_rings_267 : decode cX6_rings 267 = .ok (.iinc 5 1, 3) := by decide +kernel
theorem dX6_rings_270 : decode cX6_rings 270 = .ok (.goto (-141), 3) := by decide +kernel
theorem dX6_rings_273 : decode cX6_rings 273 = .ok (.return_, 1) := by decide +kernel
set_option maxRecDepth 20000 in
theorem ggX6_ring_X6_spreads : GoodIn wsX6_ring wsX6_spreads := goodIn_r _ [7, 8, 9, 10, 11, 12, 13, 14, 15, 16, 17, 18, 19, 6, 20, 21, 22, 23, 24, 25, 26, 45, 46, 47, 48, 49, 50, 51, 52, 53, 54, 55, 56, 57, 58, 59, 60, 61, 62, 63, 64, 65, 66, 67, 68, 69, 70] (by decide +kernel) (by decide +kernel)
set_option maxRecDepth 20000 in
theorem gX6_ring_X6_spreads : GoodIn wsX6_ring (wsV RX6 110 RX6 yX6_spreads wsX6_spreads) := goodIn_app (goodIn_of _ (by decide +kernel)) ggX6_ring_X6_spreads
set_option maxRecDepth 20000 in
theorem ggX6_ring_X6_rings : GoodIn wsX6_ring wsX6_rings := goodIn_r _ [30, 12, 13, 1, 2, 16, 15, 14, 31, 32, 17, 18, 19, 6, 20, 21, 22, 23, 24, 25, 26, 33, 34, 35, 36, 8, 37, 38, 39, 40, 41, 42, 43, 44, 45, 46, 47, 48, 49, 50, 51, 52, 53, 54, 55, 56, 57, 58, 59, 60, 61, 62, 63, 64, 65, 66, 67, 68, 69, 70] (by decide +kernel) (by decide +kernel)
set_option maxRecDepth 20000 in
theorem gX6_ring_X6_rings : GoodIn wsX6_ring (wsV RX6 134 RX6 yX6_rings wsX6_rings) := goodIn_app (goodIn_of _ (by decide +kernel)) ggX6_ring_X6_rings
theorem dX6_ring_0 : decode cX6_ring 0 = .ok (.iload_n 1, 1) := by decide +kernel
theorem dX6_ring_1 : decode cX6_ring 1 = .ok (.ifCond .lt 10, 3) := by decide +kernel
theorem dX6_ring_4 : decode cX6_ring 4 = .ok (.aload_n 0, 1) := by decide +kernel
theorem dX6_ring_5 : decode cX6_ring 5 = .ok (.invokevirtual 110, 3) := by decide +kernel
theorem dX6_ring_8 : decode cX6_ring 8 = .ok (.ifCond .eq 5, 3) := by decide +kernel
theorem dX6_ring_11 : decode cX6_ring 11 = .ok (.iconst (-1), 1) := by decide +kernel
theorem dX6_ring_12 : decode cX6_ring 12 = .ok (.ireturn, 1) := by decide +kernel
theorem dX6_ring_13 : decode cX6_ring 13 = .ok (.aload_n 0, 1) := by decide +kernel
theorem dX6_ring_14 : decode cX6_ring 14 = .ok (.invokevirtual 134, 3) := by decide +kernel
theorem dX6_ring_17 : decode cX6_ring 17 = .ok (.iload_n 1, 1) := by decide +kernel
theorem dX6_ring_18 : decode cX6_ring 18 = .ok (.aload_n 0, 1) := by decide +kernel
theorem dX6_ring_19 : decode cX6_ring 19 = .ok (.getfield 131, 3) := by decide +kernel
theorem dX6_ring_22 : decode cX6_ring 22 = .ok (.if_icmp .ge 12, 3) := by decide +kernel
theorem dX6_ring_25 : decode cX6_ring 25 = .ok (.aload_n 0, 1) := by decide +kernel
theorem dX6_ring_26 : decode cX6_ring 26 = .ok (.getfield 68, 3) := by decide +kernel
theorem dX6_ring_29 : decode cX6_ring 29 = .ok (.iload_n 1, 1) := by decide +kernel
theorem dX6_ring_30 : decode cX6_ring 30 = .ok (.iaload, 1) := by decide +kernel
theorem dX6_ring_31 : decode cX6_ring 31 = .ok (.goto 4, 3) := by decide +kernel
theorem dX6_ring_34 : decode cX6_ring 34 = .ok (.iconst (-1), 1) := by decide +kernel
theorem dX6_ring_35 : decode cX6_ring 35 = .ok (.ireturn, 1) := by decide +kernel
theorem dX6_misses_0 : decode cX6_misses 0 = .ok (.iload_n 1, 1) := by decide +kernel
theorem dX6_misses_1 : decode cX6_misses 1 = .ok (.iconst (-1), 1) := by decide +kernel
theorem dX6_misses_2 : decode cX6_misses 2 = .ok (.if_icmp .eq 48, 3) := by decide +kernel
theorem dX6_misses_5 : decode cX6_misses 5 = .ok (.aload_n 0, 1) := by decide +kernel
theorem dX6_misses_6 : decode cX6_misses 6 = .ok (.getfield 31, 3) := by decide +kernel
theorem dX6_misses_9 : decode cX6_misses 9 = .ok (.iload_n 1, 1) := by decide +kernel
theorem dX6_misses_10 : decode cX6_misses 10 = .ok (.baload, 1) := by decide +kernel
theorem dX6_misses_11 : decode cX6_misses 11 = .ok (.ifCond .ne 39, 3) := by decide +kernel
theorem dX6_misses_14 : decode cX6_misses 14 = .ok (.aload_n 0, 1) := by decide +kernel
theorem dX6_misses_15 : decode cX6_misses 15 = .ok (.getfield 56, 3) := by decide +kernel
theorem dX6_misses_18 : decode cX6_misses 18 = .ok (.aload_n 0, 1) := by decide +kernel
theorem dX6_misses_19 : decode cX6_misses 19 = .ok (.getfield 25, 3) := by decide +kernel
theorem dX6_misses_22 : decode cX6_misses 22 = .ok (.iload_n 1, 1) := by decide +kernel
theorem dX6_misses_23 : decode cX6_misses 23 = .ok (.iaload, 1) := by decide +kernel
theorem dX6_misses_24 : decode cX6_misses 24 = .ok (.iaload, 1) := by decide +kernel
theorem dX6_misses_25 : decode cX6_misses 25 = .ok (.aload_n 0, 1) := by decide +kernel
theorem dX6_misses_26 : decode cX6_misses 26 = .ok (.getfield 56, 3) := by decide +kernel
theorem dX6_misses_29 : decode cX6_misses 29 = .ok (.aload_n 0, 1) := by decide +kernel
theorem dX6_misses_30 : decode cX6_misses 30 = .ok (.getfield 22, 3) := by decide +kernel
theorem dX6_misses_33 : decode cX6_misses 33 = .ok (.iload_n 1, 1) := by decide +kernel
theorem dX6_misses_34 : decode cX6_misses 34 = .ok (.iaload, 1) := by decide +kernel
theorem dX6_misses_35 : decode cX6_misses 35 = .ok (.iaload, 1) := by decide +kernel
theorem dX6_misses_36 : decode cX6_misses 36 = .ok (.aload_n 0, 1) := by decide +kernel
theorem dX6_misses_37 : decode cX6_misses 37 = .ok (.getfield 28, 3) := by decide +kernel
theorem dX6_misses_40 : decode cX6_misses 40 = .ok (.iload_n 1, 1) := by decide +kernel
theorem dX6_misses_41 : decode cX6_misses 41 = .ok (.iaload, 1) := by decide +kernel
theorem dX6_misses_42 : decode cX6_misses 42 = .ok (.iadd, 1) := by decide +kernel
theorem dX6_misses_43 : decode cX6_misses 43 = .ok (.if_icmp .ge 7, 3) := by decide +kernel
theorem dX6_misses_46 : decode cX6_misses 46 = .ok (.iconst 1, 1) := by decide +kernel
theorem dX6_misses_47 : decode cX6_misses 47 = .ok (.goto 4, 3) := by decide +kernel
theorem dX6_misses_50 : decode cX6_misses 50 = .ok (.iconst 0, 1) := by decide +kernel
theorem dX6_misses_51 : decode cX6_misses 51 = .ok (.ireturn, 1) := by decide +kernel
set_option maxRecDepth 20000 in
theorem ggX6_lacks_X6_isThere : GoodIn wsX6_lacks wsX6_isThere := goodIn_r _ [9, 10, 11, 20, 21, 22, 23, 24, 25, 26, 27, 28, 29, 30, 31, 32, 33, 34, 35, 36, 37, 38, 39, 40, 41, 42, 43, 44, 45] (by decide +kernel) (by decide +kernel)
set_option maxRecDepth 20000 in
theorem gX6_lacks_X6_isThere : GoodIn wsX6_lacks (wsV RX6 88 RX6 yX6_isThere wsX6_isThere) := goodIn_app (goodIn_of _ (by decide +kernel)) ggX6_lacks_X6_isThere
set_option maxRecDepth 20000 in
theorem ggX6_lacks_X6_misses : GoodIn wsX6_lacks wsX6_misses := goodIn_r _ [15, 16, 17, 3, 18, 19, 20, 21, 22, 23, 24, 25, 26, 27, 28, 29, 30, 31, 32, 33, 34, 35, 36, 37, 38, 39, 40, 41, 42, 43, 44, 45] (by decide +kernel) (by decide +kernel)
set_option maxRecDepth 20000 in
theorem gX6_lacks_X6_misses : GoodIn wsX6_lacks (wsV RX6 137 RX6 yX6_misses wsX6_misses) := goodIn_app (goodIn_of _ (by decide +kernel)) ggX6_lacks_X6_misses
theorem dX6_lacks_0 : decode cX6_lacks 0 = .ok (.aload_n 0, 1) := by decide +kernel
theorem dX6_lacks_1 : decode cX6_lacks 1 = .ok (.aload_n 0, 1) := by decide +kernel
theorem dX6_lacks_2 : decode cX6_lacks 2 = .ok (.getfield 41, 3) := by decide +kernel
theorem dX6_lacks_5 : decode cX6_lacks 5 = .ok (.iload_n 1, 1) := by decide +kernel
theorem dX6_lacks_6 : decode cX6_lacks 6 = .ok (.iaload, 1) := by decide +kernel
theorem dX6_lacks_7 : decode cX6_lacks 7 = .ok (.invokevirtual 88, 3) := by decide +kernel
theorem dX6_lacks_10 : decode cX6_lacks 10 = .ok (.ifCond .ne 7, 3) := by decide +kernel
theorem dX6_lacks_13 : decode cX6_lacks 13 = .ok (.iconst 1, 1) := by decide +kernel
theorem dX6_lacks_14 : decode cX6_lacks 14 = .ok (.goto 4, 3) := by decide +kernel
theorem dX6_lacks_17 : decode cX6_lacks 17 = .ok (.iconst 0, 1) := by decide +kernel
theorem dX6_lacks_18 : decode cX6_lacks 18 = .ok (.istore_n 2, 1) := by decide +kernel
theorem dX6_lacks_19 : decode cX6_lacks 19 = .ok (.aload_n 0, 1) := by decide +kernel
theorem dX6_lacks_20 : decode cX6_lacks 20 = .ok (.getfield 44, 3) := by decide +kernel
theorem dX6_lacks_23 : decode cX6_lacks 23 = .ok (.iload_n 1, 1) := by decide +kernel
theorem dX6_lacks_24 : decode cX6_lacks 24 = .ok (.iaload, 1) := by decide +kernel
theorem dX6_lacks_25 : decode cX6_lacks 25 = .ok (.iconst (-1), 1) := by decide +kernel
theorem dX6_lacks_26 : decode cX6_lacks 26 = .ok (.if_icmp .eq 31, 3) := by decide +kernel
theorem dX6_lacks_29 : decode cX6_lacks 29 = .ok (.iload_n 2, 1) := by decide +kernel
theorem dX6_lacks_30 : decode cX6_lacks 30 = .ok (.ifCond .ne 21, 3) := by decide +kernel
theorem dX6_lacks_33 : decode cX6_lacks 33 = .ok (.aload_n 0, 1) := by decide +kernel
theorem dX6_lacks_34 : decode cX6_lacks 34 = .ok (.aload_n 0, 1) := by decide +kernel
theorem dX6_lacks_35 : decode cX6_lacks 35 = .ok (.getfield 25, 3) := by decide +kernel
theorem dX6_lacks_38 : decode cX6_lacks 38 = .ok (.aload_n 0, 1) := by decide +kernel
theorem dX6_lacks_39 : decode cX6_lacks 39 = .ok (.getfield 44, 3) := by decide +kernel
theorem dX6_lacks_42 : decode cX6_lacks 42 = .ok (.iload_n 1, 1) := by decide +kernel
theorem dX6_lacks_43 : decode cX6_lacks 43 = .ok (.iaload, 1) := by decide +kernel
theorem dX6_lacks_44 : decode cX6_lacks 44 = .ok (.iaload, 1) := by decide +kernel
theorem dX6_lacks_45 : decode cX6_lacks 45 = .ok (.invokevirtual 88, 3) := by decide +kernel
theorem dX6_lacks_48 : decode cX6_lacks 48 = .ok (.ifCond .ne 7, 3) := by decide +kernel
theorem dX6_lacks_51 : decode cX6_lacks 51 = .ok (.iconst 1, 1) := by decide +kernel
theorem dX6_lacks_52 : decode cX6_lacks 52 = .ok (.goto 4, 3) := by decide +kernel
theorem dX6_lacks_55 : decode cX6_lacks 55 = .ok (.iconst 0, 1) := by decide +kernel
theorem dX6_lacks_56 : decode cX6_lacks 56 = .ok (.istore_n 2, 1) := by decide +kernel
theorem dX6_lacks_57 : decode cX6_lacks 57 = .ok (.aload_n 0, 1) := by decide +kernel
theorem dX6_lacks_58 : decode cX6_lacks 58 = .ok (.getfield 47, 3) := by decide +kernel
theorem dX6_lacks_61 : decode cX6_lacks 61 = .ok (.iload_n 1, 1) := by decide +kernel
theorem dX6_lacks_62 : decode cX6_lacks 62 = .ok (.iaload, 1) := by decide +kernel
theorem dX6_lacks_63 : decode cX6_lacks 63 = .ok (.iconst (-1), 1) := by decide +kernel
theorem dX6_lacks_64 : decode cX6_lacks 64 = .ok (.if_icmp .eq 31, 3) := by decide +kernel
theorem dX6_lacks_67 : decode cX6_lacks 67 = .ok (.iload_n 2, 1) := by decide +kernel
theorem dX6_lacks_68 : decode cX6_lacks 68 = .ok (.ifCond .ne 21, 3) := by decide +kernel
theorem dX6_lacks_71 : decode cX6_lacks 71 = .ok (.aload_n 0, 1) := by decide +kernel
theorem dX6_lacks_72 : decode cX6_lacks 72 = .ok (.aload_n 0, 1) := by decide +kernel
theorem dX6_lacks_73 : decode cX6_lacks 73 = .ok (.getfield 25, 3) := by decide +kernel
theorem dX6_lacks_76 : decode cX6_lacks 76 = .ok (.aload_n 0, 1) := by decide +kernel
theorem dX6_lacks_77 : decode cX6_lacks 77 = .ok (.getfield 47, 3) := by decide +kernel
theorem dX6_lacks_80 : decode cX6_lacks 80 = .ok (.iload_n 1, 1) := by decide +kernel
theorem dX6_lacks_81 : decode cX6_lacks 81 = .ok (.iaload, 1) := by decide +kernel
theorem dX6_lacks_82 : decode cX6_lacks 82 = .ok (.iaload, 1) := by decide +kernel
theorem dX6_lacks_83 : decode cX6_lacks 83 = .ok (.invokevirtual 88, 3) := by decide +kernel
theorem dX6_lacks_86 : decode cX6_lacks 86 = .ok (.ifCond .ne 7, 3) := by decide +kernel
theorem dX6_lacks_89 : decode cX6_lacks 89 = .ok (.iconst 1, 1) := by decide +kernel
theorem dX6_lacks_90 : decode cX6_lacks 90 = .ok (.goto 4, 3) := by decide +kernel
theorem dX6_lacks_93 : decode cX6_lacks 93 = .ok (.iconst 0, 1) := by decide +kernel
theorem dX6_lacks_94 : decode cX6_lacks 94 = .ok (.istore_n 2, 1) := by decide +kernel
theorem dX6_lacks_95 : decode cX6_lacks 95 = .ok (.iload_n 2, 1) := by decide +kernel
theorem dX6_lacks_96 : decode cX6_lacks 96 = .ok (.ifCond .ne 29, 3) := by decide +kernel
theorem dX6_lacks_99 : decode cX6_lacks 99 = .ok (.aload_n 0, 1) := by decide +kernel
theorem dX6_lacks_100 : decode cX6_lacks 100 = .ok (.aload_n 0, 1) := by decide +kernel
theorem dX6_lacks_101 : decode cX6_lacks 101 = .ok (.getfield 44, 3) := by decide +kernel
theorem dX6_lacks_104 : decode cX6_lacks 104 = .ok (.iload_n 1, 1) := by decide +kernel
theorem dX6_lacks_105 : decode cX6_lacks 105 = .ok (.iaload, 1) := by decide +kernel
theorem dX6_lacks_106 : decode cX6_lacks 106 = .ok (.invokevirtual 137, 3) := by decide +kernel
theorem dX6_lacks_109 : decode cX6_lacks 109 = .ok (.ifCond .ne 16, 3) := by decide +kernel
theorem dX6_lacks_112 : decode cX6_lacks 112 = .ok (.aload_n 0, 1) := by decide +kernel
theorem dX6_lacks_113 : decode cX6_lacks 113 = .ok (.aload_n 0, 1) := by decide +kernel
theorem dX6_lacks_114 : decode cX6_lacks 114 = .ok (.getfield 47, 3) := by decide +kernel
theorem dX6_lacks_117 : decode cX6_lacks 117 = .ok (.iload_n 1, 1) := by decide +kernel
theorem dX6_lacks_118 : decode cX6_lacks 118 = .ok (.iaload, 1) := by decide +kernel
theorem dX6_lacks_119 : decode cX6_lacks 119 = .ok (.invokevirtual 137, 3) := by decide +kernel
theorem dX6_lacks_122 : decode cX6_lacks 122 = .ok (.ifCond .eq 7, 3) := by decide +kernel
theorem dX6_lacks_125 : decode cX6_lacks 125 = .ok (.iconst 1, 1) := by decide +kernel
theorem dX6_lacks_126 : decode cX6_lacks 126 = .ok (.goto 4, 3) := by decide +kernel
theorem dX6_lacks_129 : decode cX6_lacks 129 = .ok (.iconst 0, 1) := by decide +kernel
theorem dX6_lacks_130 : decode cX6_lacks 130 = .ok (.ireturn, 1) := by decide +kernel
set_option maxRecDepth 20000 in
theorem ggX6_lateness_X6_lacks : GoodIn wsX6_lateness wsX6_lacks := goodIn_r _ [7, 8, 9, 10, 11, 12, 13, 14, 6, 15, 16, 17, 18, 19, 20, 21, 22, 23, 24, 25, 31, 32, 33, 34, 35, 36, 37, 38, 39, 40, 41, 42, 43, 44, 45, 46, 47, 48, 49, 50, 51, 52, 53, 54, 55, 56] (by decide +kernel) (by decide +kernel)
set_option maxRecDepth 20000 in
theorem gX6_lateness_X6_lacks : GoodIn wsX6_lateness (wsV RX6 140 RX6 yX6_lacks wsX6_lacks) := goodIn_app (goodIn_of _ (by decide +kernel)) ggX6_lateness_X6_lacks
set_option maxRecDepth 20000 in
theorem ggX6_lateness_X6_late : GoodIn wsX6_lateness wsX6_late := goodIn_r _ [29, 23, 30, 31, 32, 33, 34, 35, 36, 37, 38, 39, 40, 41, 42, 43, 44, 45, 46, 47, 48, 49, 50, 51, 52, 53, 54, 55, 56] (by decide +kernel) (by decide +kernel)
set_option maxRecDepth 20000 in
theorem gX6_lateness_X6_late : GoodIn wsX6_lateness (wsV RX6 103 RX6 yX6_late wsX6_late) := goodIn_app (goodIn_of _ (by decide +kernel)) ggX6_lateness_X6_late
theorem dX6_lateness_0 : decode cX6_lateness 0 = .ok (.aload_n 0, 1) := by decide +kernel
theorem dX6_lateness_1 : decode cX6_lateness 1 = .ok (.iload_n 1, 1) := by decide +kernel
theorem dX6_lateness_2 : decode cX6_lateness 2 = .ok (.invokevirtual 140, 3) := by decide +kernel
theorem dX6_lateness_5 : decode cX6_lateness 5 = .ok (.ifCond .eq 12, 3) := by decide +kernel
theorem dX6_lateness_8 : decode cX6_lateness 8 = .ok (.aload_n 0, 1) := by decide +kernel
theorem dX6_lateness_9 : decode cX6_lateness 9 = .ok (.getfield 53, 3) := by decide +kernel
theorem dX6_lateness_12 : decode cX6_lateness 12 = .ok (.iload_n 1, 1) := by decide +kernel
theorem dX6_lateness_13 : decode cX6_lateness 13 = .ok (.iaload, 1) := by decide +kernel
theorem dX6_lateness_14 : decode cX6_lateness 14 = .ok (.goto 13, 3) := by decide +kernel
theorem dX6_lateness_17 : decode cX6_lateness 17 = .ok (.aload_n 0, 1) := by decide +kernel
theorem dX6_lateness_18 : decode cX6_lateness 18 = .ok (.aload_n 0, 1) := by decide +kernel
theorem dX6_lateness_19 : decode cX6_lateness 19 = .ok (.getfield 50, 3) := by decide +kernel
theorem dX6_lateness_22 : decode cX6_lateness 22 = .ok (.iload_n 1, 1) := by decide +kernel
theorem dX6_lateness_23 : decode cX6_lateness 23 = .ok (.iaload, 1) := by decide +kernel
theorem dX6_lateness_24 : decode cX6_lateness 24 = .ok (.invokevirtual 103, 3) := by decide +kernel
theorem dX6_lateness_27 : decode cX6_lateness 27 = .ok (.ireturn, 1) := by decide +kernel
set_option maxRecDepth 20000 in
theorem ggX6_costs_X6_lateness : GoodIn wsX6_costs wsX6_lateness := goodIn_r _ [7, 8, 9, 10, 11, 12, 6, 13, 14, 15, 16, 17, 18, 19, 20, 21, 22, 23, 24, 25, 26, 27, 28, 29, 30, 31, 32, 33, 34, 35, 36, 37, 38, 39, 40, 41, 42, 43, 44, 45, 46, 47, 48, 49, 50, 51, 52, 53, 54, 55, 56, 57, 58, 59, 60, 61, 62] (by decide +kernel) (by decide +kernel)
set_option maxRecDepth 20000 in
theorem gX6_costs_X6_lateness : GoodIn wsX6_costs (wsV RX6 143 RX6 yX6_lateness wsX6_lateness) := goodIn_app (goodIn_of _ (by decide +kernel)) ggX6_costs_X6_lateness
theorem dX6_costs_0 : decode cX6_costs 0 = .ok (.lconst 0, 1) := by decide +kernel
theorem dX6_costs_1 : decode cX6_costs 1 = .ok (.lstore_n 1, 1) := by decide +kernel
theorem dX6_costs_2 : decode cX6_costs 2 = .ok (.iconst 0, 1) := by decide +kernel
theorem dX6_costs_3 : decode cX6_costs 3 = .ok (.istore_n 3, 1) := by decide +kernel
theorem dX6_costs_4 : decode cX6_costs 4 = .ok (.iload_n 3, 1) := by decide +kernel
theorem dX6_costs_5 : decode cX6_costs 5 = .ok (.aload_n 0, 1) := by decide +kernel
theorem dX6_costs_6 : decode cX6_costs 6 = .ok (.getfield 97, 3) := by decide +kernel
theorem dX6_costs_9 : decode cX6_costs 9 = .ok (.if_icmp .ge 26, 3) := by decide +kernel
theorem dX6_costs_12 : decode cX6_costs 12 = .ok (.lload_n 1, 1) := by decide +kernel
theorem dX6_costs_13 : decode cX6_costs 13 = .ok (.aload_n 0, 1) := by decide +kernel
theorem dX6_costs_14 : decode cX6_costs 14 = .ok (.getfield 38, 3) := by decide +kernel
theorem dX6_costs_17 : decode cX6_costs 17 = .ok (.iload_n 3, 1) := by decide +kernel
theorem dX6_costs_18 : decode cX6_costs 18 = .ok (.iaload, 1) := by decide +kernel
theorem dX6_costs_19 : decode cX6_costs 19 = .ok (.i2l, 1) := by decide +kernel
theorem dX6_costs_20 : decode cX6_costs 20 = .ok (.aload_n 0, 1) := by decide +kernel
theorem dX6_costs_21 : decode cX6_costs 21 = .ok (.iload_n 3, 1) := by decide +kernel
theorem dX6_costs_22 : decode cX6_costs 22 = .ok (.invokevirtual 143, 3) := by decide +kernel
theorem dX6_costs_25 : decode cX6_costs 25 = .ok (.i2l, 1) := by decide +kernel
theorem dX6_costs_26 : decode cX6_costs 26 = .ok (.lmul, 1) := by decide +kernel
theorem dX6_costs_27 : decode cX6_costs 27 = .ok (.ladd, 1) := by decide +kernel
theorem dX6_costs_28 : decode cX6_costs 28 = .ok (.lstore_n 1, 1) := by decide +kernel
theorem dX6_costs_29 : decode cX6_costs 29 = .ok (.iinc 3 1, 3) := by decide +kernel
theorem dX6_costs_32 : decode cX6_costs 32 = .ok (.goto (-28), 3) := by decide +kernel
theorem dX6_costs_35 : decode cX6_costs 35 = .ok (.lload_n 1, 1) := by decide +kernel
theorem dX6_costs_36 : decode cX6_costs 36 = .ok (.lreturn, 1) := by decide +kernel
set_option maxRecDepth 20000 in
theorem ggX6_told_X6_spreads : GoodIn wsX6_told wsX6_spreads := goodIn_r _ [7, 8, 9, 10, 11, 12, 13, 14, 15, 16, 17, 18, 19, 6, 20, 21, 22, 23, 24, 25, 26, 48, 49, 50, 51, 52, 53, 54, 55, 56, 57, 58, 59, 60, 61, 62, 63, 64, 65, 66, 67, 68, 69, 70, 71, 72, 73] (by decide +kernel) (by decide +kernel)
set_option maxRecDepth 20000 in
theorem gX6_told_X6_spreads : GoodIn wsX6_told (wsV RX6 110 RX6 yX6_spreads wsX6_spreads) := goodIn_app (goodIn_of _ (by decide +kernel)) ggX6_told_X6_spreads
set_option maxRecDepth 20000 in
theorem ggX6_told_X6_lateness : GoodIn wsX6_told wsX6_lateness := goodIn_r _ [30, 31, 32, 33, 34, 35, 6, 36, 37, 38, 16, 39, 21, 22, 23, 24, 25, 26, 40, 41, 42, 43, 13, 9, 14, 15, 44, 45, 46, 47, 10, 48, 49, 50, 51, 52, 53, 54, 55, 56, 57, 58, 59, 60, 61, 62, 63, 64, 65, 66, 67, 68, 69, 70, 71, 72, 73] (by decide +kernel) (by decide +kernel)
set_option maxRecDepth 20000 in
theorem gX6_told_X6_lateness : GoodIn wsX6_told (wsV RX6 143 RX6 yX6_lateness wsX6_lateness) := goodIn_app (goodIn_of _ (by decide +kernel)) ggX6_told_X6_lateness
set_option maxRecDepth 20000 in
theorem ggX6_told_X6_lacks : GoodIn wsX6_told wsX6_lacks := goodIn_r _ [36, 37, 38, 16, 39, 21, 22, 23, 6, 24, 25, 26, 40, 41, 42, 43, 13, 9, 14, 15, 48, 49, 50, 51, 52, 53, 54, 55, 56, 57, 58, 59, 60, 61, 62, 63, 64, 65, 66, 67, 68, 69, 70, 71, 72, 73] (by decide +kernel) (by decide +kernel)
set_option maxRecDepth 20000 in
theorem gX6_told_X6_lacks : GoodIn wsX6_told (wsV RX6 140 RX6 yX6_lacks wsX6_lacks) := goodIn_app (goodIn_of _ (by decide +kernel)) ggX6_told_X6_lacks
theorem dX6_told_0 : decode cX6_told 0 = .ok (.iload_n 1, 1) := by decide +kernel
theorem dX6_told_1 : decode cX6_told 1 = .ok (.ifCond .lt 20, 3) := by decide +kernel
theorem dX6_told_4 : decode cX6_told 4 = .ok (.iload_n 1, 1) := by decide +kernel
theorem dX6_told_5 : decode cX6_told 5 = .ok (.aload_n 0, 1) := by decide +kernel
theorem dX6_told_6 : decode cX6_told 6 = .ok (.getfield 97, 3) := by decide +kernel
theorem dX6_told_9 : decode cX6_told 9 = .ok (.if_icmp .ge 12, 3) := by decide +kernel
theorem dX6_told_12 : decode cX6_told 12 = .ok (.iload_n 2, 1) := by decide +kernel
theorem dX6_told_13 : decode cX6_told 13 = .ok (.ifCond .lt 8, 3) := by decide +kernel
theorem dX6_told_16 : decode cX6_told 16 = .ok (.iload_n 2, 1) := by decide +kernel
theorem dX6_told_17 : decode cX6_told 17 = .ok (.iconst 2, 1) := by decide +kernel
theorem dX6_told_18 : decode cX6_told 18 = .ok (.if_icmp .le 5, 3) := by decide +kernel
theorem dX6_told_21 : decode cX6_told 21 = .ok (.iconst (-1), 1) := by decide +kernel
theorem dX6_told_22 : decode cX6_told 22 = .ok (.ireturn, 1) := by decide +kernel
theorem dX6_told_23 : decode cX6_told 23 = .ok (.iload_n 2, 1) := by decide +kernel
theorem dX6_told_24 : decode cX6_told 24 = .ok (.iconst 2, 1) := by decide +kernel
theorem dX6_told_25 : decode cX6_told 25 = .ok (.if_icmp .ne 10, 3) := by decide +kernel
theorem dX6_told_28 : decode cX6_told 28 = .ok (.aload_n 0, 1) := by decide +kernel
theorem dX6_told_29 : decode cX6_told 29 = .ok (.getfield 38, 3) := by decide +kernel
theorem dX6_told_32 : decode cX6_told 32 = .ok (.iload_n 1, 1) := by decide +kernel
theorem dX6_told_33 : decode cX6_told 33 = .ok (.iaload, 1) := by decide +kernel
theorem dX6_told_34 : decode cX6_told 34 = .ok (.ireturn, 1) := by decide +kernel
theorem dX6_told_35 : decode cX6_told 35 = .ok (.aload_n 0, 1) := by decide +kernel
theorem dX6_told_36 : decode cX6_told 36 = .ok (.invokevirtual 110, 3) := by decide +kernel
theorem dX6_told_39 : decode cX6_told 39 = .ok (.ifCond .ne 5, 3) := by decide +kernel
theorem dX6_told_42 : decode cX6_told 42 = .ok (.iconst (-1), 1) := by decide +kernel
theorem dX6_told_43 : decode cX6_told 43 = .ok (.ireturn, 1) := by decide +kernel
theorem dX6_told_44 : decode cX6_told 44 = .ok (.iload_n 2, 1) := by decide +kernel
theorem dX6_told_45 : decode cX6_told 45 = .ok (.ifCond .ne 11, 3) := by decide +kernel
theorem dX6_told_48 : decode cX6_told 48 = .ok (.aload_n 0, 1) := by decide +kernel
theorem dX6_told_49 : decode cX6_told 49 = .ok (.iload_n 1, 1) := by decide +kernel
theorem dX6_told_50 : decode cX6_told 50 = .ok (.invokevirtual 143, 3) := by decide +kernel
theorem dX6_told_53 : decode cX6_told 53 = .ok (.goto 16, 3) := by decide +kernel
theorem dX6_told_56 : decode cX6_told 56 = .ok (.aload_n 0, 1) := by decide +kernel
theorem dX6_told_57 : decode cX6_told 57 = .ok (.iload_n 1, 1) := by decide +kernel
theorem dX6_told_58 : decode cX6_told 58 = .ok (.invokevirtual 140, 3) := by decide +kernel
theorem dX6_told_61 : decode cX6_told 61 = .ok (.ifCond .eq 7, 3) := by decide +kernel
theorem dX6_told_64 : decode cX6_told 64 = .ok (.iconst 1, 1) := by decide +kernel
theorem dX6_told_65 : decode cX6_told 65 = .ok (.goto 4, 3) := by decide +kernel
theorem dX6_told_68 : decode cX6_told 68 = .ok (.iconst 0, 1) := by decide +kernel
theorem dX6_told_69 : decode cX6_told 69 = .ok (.ireturn, 1) := by decide +kernel
set_option maxRecDepth 20000 in
theorem ggX6_cost_X6_spreads : GoodIn wsX6_cost wsX6_spreads := goodIn_r _ [6, 7, 8, 9, 10, 11, 12, 13, 14, 15, 16, 17, 18, 5, 19, 20, 21, 22, 23, 24, 25, 53, 54, 55, 56, 57, 58, 59, 60, 61, 62, 63, 64, 65, 66, 67, 68, 69, 70, 71, 72, 73, 74, 75, 76, 77, 78] (by decide +kernel) (by decide +kernel)
set_option maxRecDepth 20000 in
theorem gX6_cost_X6_spreads : GoodIn wsX6_cost (wsV RX6 110 RX6 yX6_spreads wsX6_spreads) := goodIn_app (goodIn_of _ (by decide +kernel)) ggX6_cost_X6_spreads
set_option maxRecDepth 20000 in
theorem ggX6_cost_X6_costs : GoodIn wsX6_cost wsX6_costs := goodIn_r _ [29, 30, 31, 32, 33, 34, 5, 35, 36, 37, 38, 39, 40, 41, 42, 43, 15, 44, 20, 21, 22, 23, 24, 25, 45, 46, 47, 48, 12, 8, 13, 14, 49, 50, 51, 52, 9, 53, 54, 55, 56, 57, 58, 59, 60, 61, 62, 63, 64, 65, 66, 67, 68, 69, 70, 71, 72, 73, 74, 75, 76, 77, 78] (by decide +kernel) (by decide +kernel)
set_option maxRecDepth 20000 in
theorem gX6_cost_X6_costs : GoodIn wsX6_cost (wsV RX6 146 RX6 yX6_costs wsX6_costs) := goodIn_app (goodIn_of _ (by decide +kernel)) ggX6_cost_X6_costs
theorem dX6_cost_0 : decode cX6_cost 0 = .ok (.aload_n 0, 1) := by decide +kernel
theorem dX6_cost_1 : decode cX6_cost 1 = .ok (.invokevirtual 110, 3) := by decide +kernel
theorem dX6_cost_4 : decode cX6_cost 4 = .ok (.ifCond .eq 10, 3) := by decide +kernel
theorem dX6_cost_7 : decode cX6_cost 7 = .ok (.aload_n 0, 1) := by decide +kernel
theorem dX6_cost_8 : decode cX6_cost 8 = .ok (.invokevirtual 146, 3) := by decide +kernel
theorem dX6_cost_11 : decode cX6_cost 11 = .ok (.goto 6, 3) := by decide +kernel
theorem dX6_cost_14 : decode cX6_cost 14 = .ok (.ldc2_w 150, 3) := by decide +kernel
theorem dX6_cost_17 : decode cX6_cost 17 = .ok (.lreturn, 1) := by decide +kernel
theorem dX6_keeps_0 : decode cX6_keeps 0 = .ok (.iconst 0, 1) := by decide +kernel
theorem dX6_keeps_1 : decode cX6_keeps 1 = .ok (.istore_n 3, 1) := by decide +kernel
theorem dX6_keeps_2 : decode cX6_keeps 2 = .ok (.iload_n 3, 1) := by decide +kernel
theorem dX6_keeps_3 : decode cX6_keeps 3 = .ok (.iload_n 1, 1) := by decide +kernel
theorem dX6_keeps_4 : decode cX6_keeps 4 = .ok (.if_icmp .ge 38, 3) := by decide +kernel
theorem dX6_keeps_7 : decode cX6_keeps 7 = .ok (.aload_n 0, 1) := by decide +kernel
theorem dX6_keeps_8 : decode cX6_keeps 8 = .ok (.getfield 31, 3) := by decide +kernel
theorem dX6_keeps_11 : decode cX6_keeps 11 = .ok (.aload_n 0, 1) := by decide +kernel
theorem dX6_keeps_12 : decode cX6_keeps 12 = .ok (.getfield 71, 3) := by decide +kernel
theorem dX6_keeps_15 : decode cX6_keeps 15 = .ok (.iload_n 3, 1) := by decide +kernel
theorem dX6_keeps_16 : decode cX6_keeps 16 = .ok (.iaload, 1) := by decide +kernel
theorem dX6_keeps_17 : decode cX6_keeps 17 = .ok (.iload_n 2, 1) := by decide +kernel
theorem dX6_keeps_18 : decode cX6_keeps 18 = .ok (.iload_n 1, 1) := by decide +kernel
theorem dX6_keeps_19 : decode cX6_keeps 19 = .ok (.iconst 1, 1) := by decide +kernel
theorem dX6_keeps_20 : decode cX6_keeps 20 = .ok (.isub, 1) := by decide +kernel
theorem dX6_keeps_21 : decode cX6_keeps 21 = .ok (.iload_n 3, 1) := by decide +kernel
theorem dX6_keeps_22 : decode cX6_keeps 22 = .ok (.isub, 1) := by decide +kernel
theorem dX6_keeps_23 : decode cX6_keeps 23 = .ok (.ishr, 1) := by decide +kernel
theorem dX6_keeps_24 : decode cX6_keeps 24 = .ok (.iconst 1, 1) := by decide +kernel
theorem dX6_keeps_25 : decode cX6_keeps 25 = .ok (.iand, 1) := by decide +kernel
theorem dX6_keeps_26 : decode cX6_keeps 26 = .ok (.iconst 1, 1) := by decide +kernel
theorem dX6_keeps_27 : decode cX6_keeps 27 = .ok (.if_icmp .ne 7, 3) := by decide +kernel
theorem dX6_keeps_30 : decode cX6_keeps 30 = .ok (.iconst 1, 1) := by decide +kernel
theorem dX6_keeps_31 : decode cX6_keeps 31 = .ok (.goto 4, 3) := by decide +kernel
theorem dX6_keeps_34 : decode cX6_keeps 34 = .ok (.iconst 0, 1) := by decide +kernel
theorem dX6_keeps_35 : decode cX6_keeps 35 = .ok (.bastore, 1) := by decide +kernel
theorem dX6_keeps_36 : decode cX6_keeps 36 = .ok (.iinc 3 1, 3) := by decide +kernel
theorem dX6_keeps_39 : decode cX6_keeps 39 = .ok (.goto (-37), 3) := by decide +kernel
theorem dX6_keeps_42 : decode cX6_keeps 42 = .ok (.return_, 1) := by decide +kernel
theorem dX6_bits_0 : decode cX6_bits 0 = .ok (.iconst 0, 1) := by decide +kernel
theorem dX6_bits_1 : decode cX6_bits 1 = .ok (.istore_n 1, 1) := by decide +kernel
theorem dX6_bits_2 : decode cX6_bits 2 = .ok (.iconst 0, 1) := by decide +kernel
theorem dX6_bits_3 : decode cX6_bits 3 = .ok (.istore_n 2, 1) := by decide +kernel
theorem dX6_bits_4 : decode cX6_bits 4 = .ok (.iload_n 2, 1) := by decide +kernel
theorem dX6_bits_5 : decode cX6_bits 5 = .ok (.bipush 10, 2) := by decide +kernel
theorem dX6_bits_7 : decode cX6_bits 7 = .ok (.if_icmp .ge 17, 3) := by decide +kernel
theorem dX6_bits_10 : decode cX6_bits 10 = .ok (.iload_n 1, 1) := by decide +kernel
theorem dX6_bits_11 : decode cX6_bits 11 = .ok (.iload_n 0, 1) := by decide +kernel
theorem dX6_bits_12 : decode cX6_bits 12 = .ok (.iload_n 2, 1) := by decide +kernel
theorem dX6_bits_13 : decode cX6_bits 13 = .ok (.ishr, 1) := by decide +kernel
theorem dX6_bits_14 : decode cX6_bits 14 = .ok (.iconst 1, 1) := by decide +kernel
theorem dX6_bits_15 : decode cX6_bits 15 = .ok (.iand, 1) := by decide +kernel
theorem dX6_bits_16 : decode cX6_bits 16 = .ok (.iadd, 1) := by decide +kernel
theorem dX6_bits_17 : decode cX6_bits 17 = .ok (.istore_n 1, 1) := by decide +kernel
theorem dX6_bits_18 : decode cX6_bits 18 = .ok (.iinc 2 1, 3) := by decide +kernel
theorem dX6_bits_21 : decode cX6_bits 21 = .ok (.goto (-17), 3) := by decide +kernel
theorem dX6_bits_24 : decode cX6_bits 24 = .ok (.iload_n 1, 1) := by decide +kernel
theorem dX6_bits_25 : decode cX6_bits 25 = .ok (.ireturn, 1) := by decide +kernel
set_option maxRecDepth 20000 in
theorem ggX6_choose_X6_areThere : GoodIn wsX6_choose wsX6_areThere := goodIn_r _ [11, 12, 13, 14, 15, 16, 10, 17, 18, 19, 63, 64, 65, 66, 67, 68, 69, 70, 71, 72, 73, 74, 75, 76, 77, 78, 79, 80, 81, 82, 83, 84, 85, 86, 87, 88] (by decide +kernel) (by decide +kernel)
set_option maxRecDepth 20000 in
theorem gX6_choose_X6_areThere : GoodIn wsX6_choose (wsV RX6 100 RX6 yX6_areThere wsX6_areThere) := goodIn_app (goodIn_of _ (by decide +kernel)) ggX6_choose_X6_areThere
set_option maxRecDepth 20000 in
theorem ggX6_choose_X6_keeps : GoodIn wsX6_choose wsX6_keeps := goodIn_r _ [23, 6, 3, 63, 64, 65, 66, 67, 68, 69, 70, 71, 72, 73, 74, 75, 76, 77, 78, 79, 80, 81, 82, 83, 84, 85, 86, 87, 88] (by decide +kernel) (by decide +kernel)
set_option maxRecDepth 20000 in
theorem gX6_choose_X6_keeps : GoodIn wsX6_choose (wsV RX6 152 RX6 yX6_keeps wsX6_keeps) := goodIn_app (goodIn_of _ (by decide +kernel)) ggX6_choose_X6_keeps
set_option maxRecDepth 20000 in
theorem ggX6_choose_X6_spreads : GoodIn wsX6_choose wsX6_spreads := goodIn_r _ [27, 28, 29, 30, 31, 1, 6, 12, 32, 13, 7, 8, 9, 10, 11, 14, 15, 16, 17, 18, 19, 63, 64, 65, 66, 67, 68, 69, 70, 71, 72, 73, 74, 75, 76, 77, 78, 79, 80, 81, 82, 83, 84, 85, 86, 87, 88] (by decide +kernel) (by decide +kernel)
set_option maxRecDepth 20000 in
theorem gX6_choose_X6_spreads : GoodIn wsX6_choose (wsV RX6 110 RX6 yX6_spreads wsX6_spreads) := goodIn_app (goodIn_of _ (by decide +kernel)) ggX6_choose_X6_spreads
set_option maxRecDepth 20000 in
theorem ggX6_choose_X6_costs : GoodIn wsX6_choose wsX6_costs := goodIn_r _ [36, 37, 38, 39, 40, 41, 10, 42, 43, 44, 45, 46, 47, 48, 49, 50, 13, 51, 14, 15, 16, 17, 18, 19, 52, 53, 54, 55, 6, 29, 12, 32, 56, 57, 58, 59, 30, 63, 64, 65, 66, 67, 68, 69, 70, 71, 72, 73, 74, 75, 76, 77, 78, 79, 80, 81, 82, 83, 84, 85, 86, 87, 88] (by decide +kernel) (by decide +kernel)
set_option maxRecDepth 20000 in
theorem gX6_choose_X6_costs : GoodIn wsX6_choose (wsV RX6 146 RX6 yX6_costs wsX6_costs) := goodIn_app (goodIn_of _ (by decide +kernel)) ggX6_choose_X6_costs
set_option maxRecDepth 20000 in
theorem ggX6_choose_X6_bits : GoodIn wsX6_choose wsX6_bits := goodIn_r _ [62] (by decide +kernel) (by decide +kernel)
set_option maxRecDepth 20000 in
theorem gX6_choose_X6_bits : GoodIn wsX6_choose (va_wsS RX6 155 yX6_bits wsX6_bits) := goodIn_app (goodIn_of _ (by decide +kernel)) ggX6_choose_X6_bits
theorem dX6_choose_0 : decode cX6_choose 0 = .ok (.iconst 0, 1) := by decide +kernel
theorem dX6_choose_1 : decode cX6_choose 1 = .ok (.istore_n 1, 1) := by decide +kernel
theorem dX6_choose_2 : decode cX6_choose 2 = .ok (.iconst 0, 1) := by decide +kernel
theorem dX6_choose_3 : decode cX6_choose 3 = .ok (.istore_n 2, 1) := by decide +kernel
theorem dX6_choose_4 : decode cX6_choose 4 = .ok (.iload_n 2, 1) := by decide +kernel
theorem dX6_choose_5 : decode cX6_choose 5 = .ok (.aload_n 0, 1) := by decide +kernel
theorem dX6_choose_6 : decode cX6_choose 6 = .ok (.getfield 81, 3) := by decide +kernel
theorem dX6_choose_9 : decode cX6_choose 9 = .ok (.if_icmp .ge 41, 3) := by decide +kernel
theorem dX6_choose_12 : decode cX6_choose 12 = .ok (.aload_n 0, 1) := by decide +kernel
theorem dX6_choose_13 : decode cX6_choose 13 = .ok (.getfield 19, 3) := by decide +kernel
theorem dX6_choose_16 : decode cX6_choose 16 = .ok (.iload_n 2, 1) := by decide +kernel
theorem dX6_choose_17 : decode cX6_choose 17 = .ok (.iaload, 1) := by decide +kernel
theorem dX6_choose_18 : decode cX6_choose 18 = .ok (.iconst 2, 1) := by decide +kernel
theorem dX6_choose_19 : decode cX6_choose 19 = .ok (.if_icmp .ne 25, 3) := by decide +kernel
theorem dX6_choose_22 : decode cX6_choose 22 = .ok (.aload_n 0, 1) := by decide +kernel
theorem dX6_choose_23 : decode cX6_choose 23 = .ok (.iload_n 2, 1) := by decide +kernel
theorem dX6_choose_24 : decode cX6_choose 24 = .ok (.invokevirtual 100, 3) := by decide +kernel
theorem dX6_choose_27 : decode cX6_choose 27 = .ok (.ifCond .ne 6, 3) := by decide +kernel
theorem dX6_choose_30 : decode cX6_choose 30 = .ok (.goto 14, 3) := by decide +kernel
theorem dX6_choose_33 : decode cX6_choose 33 = .ok (.aload_n 0, 1) := by decide +kernel
theorem dX6_choose_34 : decode cX6_choose 34 = .ok (.getfield 71, 3) := by decide +kernel
theorem dX6_choose_37 : decode cX6_choose 37 = .ok (.iload_n 1, 1) := by decide +kernel
theorem dX6_choose_38 : decode cX6_choose 38 = .ok (.iload_n 2, 1) := by decide +kernel
theorem dX6_choose_39 : decode cX6_choose 39 = .ok (.iastore, 1) := by decide +kernel
theorem dX6_choose_40 : decode cX6_choose 40 = .ok (.iload_n 1, 1) := by decide +kernel
theorem dX6_choose_41 : decode cX6_choose 41 = .ok (.iconst 1, 1) := by decide +kernel
theorem dX6_choose_42 : decode cX6_choose 42 = .ok (.iadd, 1) := by decide +kernel
theorem dX6_choose_43 : decode cX6_choose 43 = .ok (.istore_n 1, 1) := by decide +kernel
theorem dX6_choose_44 : decode cX6_choose 44 = .ok (.iinc 2 1, 3) := by decide +kernel
theorem dX6_choose_47 : decode cX6_choose 47 = .ok (.goto (-43), 3) := by decide +kernel
theorem dX6_choose_50 : decode cX6_choose 50 = .ok (.iload_n 1, 1) := by decide +kernel
theorem dX6_choose_51 : decode cX6_choose 51 = .ok (.bipush 10, 2) := by decide +kernel
theorem dX6_choose_53 : decode cX6_choose 53 = .ok (.if_icmp .le 7, 3) := by decide +kernel
theorem dX6_choose_56 : decode cX6_choose 56 = .ok (.ldc2_w 150, 3) := by decide +kernel
theorem dX6_choose_59 : decode cX6_choose 59 = .ok (.lreturn, 1) := by decide +kernel
theorem dX6_choose_60 : decode cX6_choose 60 = .ok (.iconst 0, 1) := by decide +kernel
theorem dX6_choose_61 : decode cX6_choose 61 = .ok (.istore_n 2, 1) := by decide +kernel
theorem dX6_choose_62 : decode cX6_choose 62 = .ok (.iload_n 2, 1) := by decide +kernel
theorem dX6_choose_63 : decode cX6_choose 63 = .ok (.iload_n 1, 1) := by decide +kernel
theorem dX6_choose_64 : decode cX6_choose 64 = .ok (.if_icmp .ge 26, 3) := by decide +kernel
theorem dX6_choose_67 : decode cX6_choose 67 = .ok (.aload_n 0, 1) := by decide +kernel
theorem dX6_choose_68 : decode cX6_choose 68 = .ok (.getfield 74, 3) := by decide +kernel
theorem dX6_choose_71 : decode cX6_choose 71 = .ok (.iload_n 2, 1) := by decide +kernel
theorem dX6_choose_72 : decode cX6_choose 72 = .ok (.aload_n 0, 1) := by decide +kernel
theorem dX6_choose_73 : decode cX6_choose 73 = .ok (.getfield 31, 3) := by decide +kernel
theorem dX6_choose_76 : decode cX6_choose 76 = .ok (.aload_n 0, 1) := by decide +kernel
theorem dX6_choose_77 : decode cX6_choose 77 = .ok (.getfield 71, 3) := by decide +kernel
theorem dX6_choose_80 : decode cX6_choose 80 = .ok (.iload_n 2, 1) := by decide +kernel
theorem dX6_choose_81 : decode cX6_choose 81 = .ok (.iaload, 1) := by decide +kernel
theorem dX6_choose_82 : decode cX6_choose 82 = .ok (.baload, 1) := by decide +kernel
theorem dX6_choose_83 : decode cX6_choose 83 = .ok (.bastore, 1) := by decide +kernel
theorem dX6_choose_84 : decode cX6_choose 84 = .ok (.iinc 2 1, 3) := by decide +kernel
theorem dX6_choose_87 : decode cX6_choose 87 = .ok (.goto (-25), 3) := by decide +kernel
theorem dX6_choose_90 : decode cX6_choose 90 = .ok (.iconst (-1), 1) := by decide +kernel
theorem dX6_choose_91 : decode cX6_choose 91 = .ok (.istore_n 2, 1) := by decide +kernel
theorem dX6_choose_92 : decode cX6_choose 92 = .ok (.lconst 0, 1) := by decide +kernel
theorem dX6_choose_93 : decode cX6_choose 93 = .ok (.lstore_n 3, 1) := by decide +kernel
theorem dX6_choose_94 : decode cX6_choose 94 = .ok (.iconst 0, 1) := by decide +kernel
theorem dX6_choose_95 : decode cX6_choose 95 = .ok (.istore 5, 2) := by decide +kernel
theorem dX6_choose_97 : decode cX6_choose 97 = .ok (.iload 5, 2) := by decide +kernel
theorem dX6_choose_99 : decode cX6_choose 99 = .ok (.iconst 1, 1) := by decide +kernel
theorem dX6_choose_100 : decode cX6_choose 100 = .ok (.iload_n 1, 1) := by decide +kernel
theorem dX6_choose_101 : decode cX6_choose 101 = .ok (.ishl, 1) := by decide +kernel
theorem dX6_choose_102 : decode cX6_choose 102 = .ok (.if_icmp .ge 102, 3) := by decide +kernel
theorem dX6_choose_105 : decode cX6_choose 105 = .ok (.aload_n 0, 1) := by decide +kernel
theorem dX6_choose_106 : decode cX6_choose 106 = .ok (.iload_n 1, 1) := by decide +kernel
theorem dX6_choose_107 : decode cX6_choose 107 = .ok (.iload 5, 2) := by decide +kernel
theorem dX6_choose_109 : decode cX6_choose 109 = .ok (.invokevirtual 152, 3) := by decide +kernel
theorem dX6_choose_112 : decode cX6_choose 112 = .ok (.aload_n 0, 1) := by decide +kernel
theorem dX6_choose_113 : decode cX6_choose 113 = .ok (.invokevirtual 110, 3) := by decide +kernel
theorem dX6_choose_116 : decode cX6_choose 116 = .ok (.ifCond .ne 6, 3) := by decide +kernel
theorem dX6_choose_119 : decode cX6_choose 119 = .ok (.goto 79, 3) := by decide +kernel
theorem dX6_choose_122 : decode cX6_choose 122 = .ok (.aload_n 0, 1) := by decide +kernel
theorem dX6_choose_123 : decode cX6_choose 123 = .ok (.invokevirtual 146, 3) := by decide +kernel
theorem dX6_choose_126 : decode cX6_choose 126 = .ok (.lstore 6, 2) := by decide +kernel
theorem dX6_choose_128 : decode cX6_choose 128 = .ok (.iload_n 2, 1) := by decide +kernel
theorem dX6_choose_129 : decode cX6_choose 129 = .ok (.iconst (-1), 1) := by decide +kernel
theorem dX6_choose_130 : decode cX6_choose 130 = .ok (.if_icmp .eq 47, 3) := by decide +kernel
theorem dX6_choose_133 : decode cX6_choose 133 = .ok (.lload 6, 2) := by decide +kernel
theorem dX6_choose_135 : decode cX6_choose 135 = .ok (.lload_n 3, 1) := by decide +kernel
theorem dX6_choose_136 : decode cX6_choose 136 = .ok (.lcmp, 1) := by decide +kernel
theorem dX6_choose_137 : decode cX6_choose 137 = .ok (.ifCond .lt 40, 3) := by decide +kernel
theorem dX6_choose_140 : decode cX6_choose 140 = .ok (.lload 6, 2) := by decide +kernel
theorem dX6_choose_142 : decode cX6_choose 142 = .ok (.lload_n 3, 1) := by decide +kernel
theorem dX6_choose_143 : decode cX6_choose 143 = .ok (.lcmp, 1) := by decide +kernel
theorem dX6_choose_144 : decode cX6_choose 144 = .ok (.ifCond .ne 37, 3) := by decide +kernel
theorem dX6_choose_147 : decode cX6_choose 147 = .ok (.iload 5, 2) := by decide +kernel
theorem dX6_choose_149 : decode cX6_choose 149 = .ok (.invokestatic 155, 3) := by decide +kernel
theorem dX6_choose_152 : decode cX6_choose 152 = .ok (.iload_n 2, 1) := by decide +kernel
theorem dX6_choose_153 : decode cX6_choose 153 = .ok (.invokestatic 155, 3) := by decide +kernel
theorem dX6_choose_156 : decode cX6_choose 156 = .ok (.if_icmp .lt 21, 3) := by decide +kernel
theorem dX6_choose_159 : decode cX6_choose 159 = .ok (.iload 5, 2) := by decide +kernel
theorem dX6_choose_161 : decode cX6_choose 161 = .ok (.invokestatic 155, 3) := by decide +kernel
theorem dX6_choose_164 : decode cX6_choose 164 = .ok (.iload_n 2, 1) := by decide +kernel
theorem dX6_choose_165 : decode cX6_choose 165 = .ok (.invokestatic 155, 3) := by decide +kernel
theorem dX6_choose_168 : decode cX6_choose 168 = .ok (.if_icmp .ne 13, 3) := by decide +kernel
theorem dX6_choose_171 : decode cX6_choose 171 = .ok (.iload 5, 2) := by decide +kernel
theorem dX6_choose_173 : decode cX6_choose 173 = .ok (.iload_n 2, 1) := by decide +kernel
theorem dX6_choose_174 : decode cX6_choose 174 = .ok (.if_icmp .le 7, 3) := by decide +kernel
theorem dX6_choose_177 : decode cX6_choose 177 = .ok (.iconst 1, 1) := by decide +kernel
theorem dX6_choose_178 : decode cX6_choose 178 = .ok (.goto 4, 3) := by decide +kernel
theorem dX6_choose_181 : decode cX6_choose 181 = .ok (.iconst 0, 1) := by decide +kernel
theorem dX6_choose_182 : decode cX6_choose 182 = .ok (.istore 8, 2) := by decide +kernel
theorem dX6_choose_184 : decode cX6_choose 184 = .ok (.iload 8, 2) := by decide +kernel
theorem dX6_choose_186 : decode cX6_choose 186 = .ok (.ifCond .ne 6, 3) := by decide +kernel
theorem dX6_choose_189 : decode cX6_choose 189 = .ok (.goto 9, 3) := by decide +kernel
theorem dX6_choose_192 : decode cX6_choose 192 = .ok (.iload 5, 2) := by decide +kernel
theorem dX6_choose_194 : decode cX6_choose 194 = .ok (.istore_n 2, 1) := by decide +kernel
theorem dX6_choose_195 : decode cX6_choose 195 = .ok (.lload 6, 2) := by decide +kernel
theorem dX6_choose_197 : decode cX6_choose 197 = .ok (.lstore_n 3, 1) := by decide +kernel
theorem dX6_choose_198 : decode cX6_choose 198 = .ok (.iinc 5 1, 3) := by decide +kernel
theorem dX6_choose_201 : decode cX6_choose 201 = .ok (.goto (-104), 3) := by decide +kernel
theorem dX6_choose_204 : decode cX6_choose 204 = .ok (.iload_n 2, 1) := by decide +kernel
theorem dX6_choose_205 : decode cX6_choose 205 = .ok (.iconst (-1), 1) := by decide +kernel
theorem dX6_choose_206 : decode cX6_choose 206 = .ok (.if_icmp .ne 41, 3) := by decide +kernel
theorem dX6_choose_209 : decode cX6_choose 209 = .ok (.iconst 0, 1) := by decide +kernel
theorem dX6_choose_210 : decode cX6_choose 210 = .ok (.istore 5, 2) := by decide +kernel
theorem dX6_choose_212 : decode cX6_choose 212 = .ok (.iload 5, 2) := by decide +kernel
theorem dX6_choose_214 : decode cX6_choose 214 = .ok (.iload_n 1, 1) := by decide +kernel
theorem dX6_choose_215 : decode cX6_choose 215 = .ok (.if_icmp .ge 28, 3) := by decide +kernel
theorem dX6_choose_218 : decode cX6_choose 218 = .ok (.aload_n 0, 1) := by decide +kernel
theorem dX6_choose_219 : decode cX6_choose 219 = .ok (.getfield 31, 3) := by decide +kernel
theorem dX6_choose_222 : decode cX6_choose 222 = .ok (.aload_n 0, 1) := by decide +kernel
theorem dX6_choose_223 : decode cX6_choose 223 = .ok (.getfield 71, 3) := by decide +kernel
theorem dX6_choose_226 : decode cX6_choose 226 = .ok (.iload 5, 2) := by decide +kernel
theorem dX6_choose_228 : decode cX6_choose 228 = .ok (.iaload, 1) := by decide +kernel
theorem dX6_choose_229 : decode cX6_choose 229 = .ok (.aload_n 0, 1) := by decide +kernel
theorem dX6_choose_230 : decode cX6_choose 230 = .ok (.getfield 74, 3) := by decide +kernel
theorem dX6_choose_233 : decode cX6_choose 233 = .ok (.iload 5, 2) := by decide +kernel
theorem dX6_choose_235 : decode cX6_choose 235 = .ok (.baload, 1) := by decide +kernel
theorem dX6_choose_236 : decode cX6_choose 236 = .ok (.bastore, 1) := by decide +kernel
theorem dX6_choose_237 : decode cX6_choose 237 = .ok (.iinc 5 1, 3) := by decide +kernel
theorem dX6_choose_240 : decode cX6_choose 240 = .ok (.goto (-28), 3) := by decide +kernel
theorem dX6_choose_243 : decode cX6_choose 243 = .ok (.ldc2_w 150, 3) := by decide +kernel
theorem dX6_choose_246 : decode cX6_choose 246 = .ok (.lreturn, 1) := by decide +kernel
theorem dX6_choose_247 : decode cX6_choose 247 = .ok (.aload_n 0, 1) := by decide +kernel
theorem dX6_choose_248 : decode cX6_choose 248 = .ok (.iload_n 1, 1) := by decide +kernel
theorem dX6_choose_249 : decode cX6_choose 249 = .ok (.iload_n 2, 1) := by decide +kernel
theorem dX6_choose_250 : decode cX6_choose 250 = .ok (.invokevirtual 152, 3) := by decide +kernel
theorem dX6_choose_253 : decode cX6_choose 253 = .ok (.lload_n 3, 1) := by decide +kernel
theorem dX6_choose_254 : decode cX6_choose 254 = .ok (.lreturn, 1) := by decide +kernel
set_option maxRecDepth 20000 in
theorem ggX6_rule_X6_areThere : GoodIn wsX6_rule wsX6_areThere := goodIn_r _ [14, 8, 5, 15, 16, 17, 13, 18, 19, 20, 27, 28, 29, 30, 31, 32, 33, 34, 35, 36, 37, 38, 39, 40, 41, 42, 43, 44, 45, 46, 47, 48, 49, 50, 51, 52] (by decide +kernel) (by decide +kernel)
set_option maxRecDepth 20000 in
theorem gX6_rule_X6_areThere : GoodIn wsX6_rule (wsV RX6 100 RX6 yX6_areThere wsX6_areThere) := goodIn_app (goodIn_of _ (by decide +kernel)) ggX6_rule_X6_areThere
set_option maxRecDepth 20000 in
theorem ggX6_rule_X6_spreads : GoodIn wsX6_rule wsX6_spreads := goodIn_r _ [24, 25, 7, 4, 26, 1, 3, 8, 9, 5, 10, 11, 12, 13, 14, 15, 16, 17, 18, 19, 20, 27, 28, 29, 30, 31, 32, 33, 34, 35, 36, 37, 38, 39, 40, 41, 42, 43, 44, 45, 46, 47, 48, 49, 50, 51, 52] (by decide +kernel) (by decide +kernel)
set_option maxRecDepth 20000 in
theorem gX6_rule_X6_spreads : GoodIn wsX6_rule (wsV RX6 110 RX6 yX6_spreads wsX6_spreads) := goodIn_app (goodIn_of _ (by decide +kernel)) ggX6_rule_X6_spreads
theorem dX6_rule_0 : decode cX6_rule 0 = .ok (.iload_n 1, 1) := by decide +kernel
theorem dX6_rule_1 : decode cX6_rule 1 = .ok (.ifCond .lt 10, 3) := by decide +kernel
theorem dX6_rule_4 : decode cX6_rule 4 = .ok (.iload_n 1, 1) := by decide +kernel
theorem dX6_rule_5 : decode cX6_rule 5 = .ok (.sipush 1000, 3) := by decide +kernel
theorem dX6_rule_8 : decode cX6_rule 8 = .ok (.if_icmp .le 5, 3) := by decide +kernel
theorem dX6_rule_11 : decode cX6_rule 11 = .ok (.iconst (-1), 1) := by decide +kernel
theorem dX6_rule_12 : decode cX6_rule 12 = .ok (.ireturn, 1) := by decide +kernel
theorem dX6_rule_13 : decode cX6_rule 13 = .ok (.iconst 0, 1) := by decide +kernel
theorem dX6_rule_14 : decode cX6_rule 14 = .ok (.istore_n 2, 1) := by decide +kernel
theorem dX6_rule_15 : decode cX6_rule 15 = .ok (.iconst 0, 1) := by decide +kernel
theorem dX6_rule_16 : decode cX6_rule 16 = .ok (.istore_n 3, 1) := by decide +kernel
theorem dX6_rule_17 : decode cX6_rule 17 = .ok (.iload_n 3, 1) := by decide +kernel
theorem dX6_rule_18 : decode cX6_rule 18 = .ok (.aload_n 0, 1) := by decide +kernel
theorem dX6_rule_19 : decode cX6_rule 19 = .ok (.getfield 81, 3) := by decide +kernel
theorem dX6_rule_22 : decode cX6_rule 22 = .ok (.if_icmp .ge 118, 3) := by decide +kernel
theorem dX6_rule_25 : decode cX6_rule 25 = .ok (.aload_n 0, 1) := by decide +kernel
theorem dX6_rule_26 : decode cX6_rule 26 = .ok (.getfield 19, 3) := by decide +kernel
theorem dX6_rule_29 : decode cX6_rule 29 = .ok (.iload_n 3, 1) := by decide +kernel
theorem dX6_rule_30 : decode cX6_rule 30 = .ok (.iaload, 1) := by decide +kernel
theorem dX6_rule_31 : decode cX6_rule 31 = .ok (.iconst 2, 1) := by decide +kernel
theorem dX6_rule_32 : decode cX6_rule 32 = .ok (.if_icmp .eq 6, 3) := by decide +kernel
theorem dX6_rule_35 : decode cX6_rule 35 = .ok (.goto 99, 3) := by decide +kernel
theorem dX6_rule_38 : decode cX6_rule 38 = .ok (.aload_n 0, 1) := by decide +kernel
theorem dX6_rule_39 : decode cX6_rule 39 = .ok (.getfield 31, 3) := by decide +kernel
theorem dX6_rule_42 : decode cX6_rule 42 = .ok (.iload_n 3, 1) := by decide +kernel
theorem dX6_rule_43 : decode cX6_rule 43 = .ok (.iconst 0, 1) := by decide +kernel
theorem dX6_rule_44 : decode cX6_rule 44 = .ok (.bastore, 1) := by decide +kernel
theorem dX6_rule_45 : decode cX6_rule 45 = .ok (.aload_n 0, 1) := by decide +kernel
theorem dX6_rule_46 : decode cX6_rule 46 = .ok (.iload_n 3, 1) := by decide +kernel
theorem dX6_rule_47 : decode cX6_rule 47 = .ok (.invokevirtual 100, 3) := by decide +kernel
theorem dX6_rule_50 : decode cX6_rule 50 = .ok (.ifCond .ne 6, 3) := by decide +kernel
theorem dX6_rule_53 : decode cX6_rule 53 = .ok (.goto 81, 3) := by decide +kernel
theorem dX6_rule_56 : decode cX6_rule 56 = .ok (.iload_n 2, 1) := by decide +kernel
theorem dX6_rule_57 : decode cX6_rule 57 = .ok (.istore 4, 2) := by decide +kernel
theorem dX6_rule_59 : decode cX6_rule 59 = .ok (.iload 4, 2) := by decide +kernel
theorem dX6_rule_61 : decode cX6_rule 61 = .ok (.ifCond .le 61, 3) := by decide +kernel
theorem dX6_rule_64 : decode cX6_rule 64 = .ok (.aload_n 0, 1) := by decide +kernel
theorem dX6_rule_65 : decode cX6_rule 65 = .ok (.getfield 13, 3) := by decide +kernel
theorem dX6_rule_68 : decode cX6_rule 68 = .ok (.aload_n 0, 1) := by decide +kernel
theorem dX6_rule_69 : decode cX6_rule 69 = .ok (.getfield 25, 3) := by decide +kernel
theorem dX6_rule_72 : decode cX6_rule 72 = .ok (.aload_n 0, 1) := by decide +kernel
theorem dX6_rule_73 : decode cX6_rule 73 = .ok (.getfield 71, 3) := by decide +kernel
theorem dX6_rule_76 : decode cX6_rule 76 = .ok (.iload 4, 2) := by decide +kernel
theorem dX6_rule_78 : decode cX6_rule 78 = .ok (.iconst 1, 1) := by decide +kernel
theorem dX6_rule_79 : decode cX6_rule 79 = .ok (.isub, 1) := by decide +kernel
theorem dX6_rule_80 : decode cX6_rule 80 = .ok (.iaload, 1) := by decide +kernel
theorem dX6_rule_81 : decode cX6_rule 81 = .ok (.iaload, 1) := by decide +kernel
theorem dX6_rule_82 : decode cX6_rule 82 = .ok (.iaload, 1) := by decide +kernel
theorem dX6_rule_83 : decode cX6_rule 83 = .ok (.aload_n 0, 1) := by decide +kernel
theorem dX6_rule_84 : decode cX6_rule 84 = .ok (.getfield 13, 3) := by decide +kernel
theorem dX6_rule_87 : decode cX6_rule 87 = .ok (.aload_n 0, 1) := by decide +kernel
theorem dX6_rule_88 : decode cX6_rule 88 = .ok (.getfield 25, 3) := by decide +kernel
theorem dX6_rule_91 : decode cX6_rule 91 = .ok (.iload_n 3, 1) := by decide +kernel
theorem dX6_rule_92 : decode cX6_rule 92 = .ok (.iaload, 1) := by decide +kernel
theorem dX6_rule_93 : decode cX6_rule 93 = .ok (.iaload, 1) := by decide +kernel
theorem dX6_rule_94 : decode cX6_rule 94 = .ok (.if_icmp .le 28, 3) := by decide +kernel
theorem dX6_rule_97 : decode cX6_rule 97 = .ok (.aload_n 0, 1) := by decide +kernel
theorem dX6_rule_98 : decode cX6_rule 98 = .ok (.getfield 71, 3) := by decide +kernel
theorem dX6_rule_101 : decode cX6_rule 101 = .ok (.iload 4, 2) := by decide +kernel
theorem dX6_rule_103 : decode cX6_rule 103 = .ok (.aload_n 0, 1) := by decide +kernel
theorem dX6_rule_104 : decode cX6_rule 104 = .ok (.getfield 71, 3) := by decide +kernel
theorem dX6_rule_107 : decode cX6_rule 107 = .ok (.iload 4, 2) := by decide +kernel
theorem dX6_rule_109 : decode cX6_rule 109 = .ok (.iconst 1, 1) := by decide +kernel
theorem dX6_rule_110 : decode cX6_rule 110 = .ok (.isub, 1) := by decide +kernel
theorem dX6_rule_111 : decode cX6_rule 111 = .ok (.iaload, 1) := by decide +kernel
theorem dX6_rule_112 : decode cX6_rule 112 = .ok (.iastore, 1) := by decide +kernel
theorem dX6_rule_113 : decode cX6_rule 113 = .ok (.iload 4, 2) := by decide +kernel
theorem dX6_rule_115 : decode cX6_rule 115 = .ok (.iconst 1, 1) := by decide +kernel
theorem dX6_rule_116 : decode cX6_rule 116 = .ok (.isub, 1) := by decide +kernel
theorem dX6_rule_117 : decode cX6_rule 117 = .ok (.istore 4, 2) := by decide +kernel
theorem dX6_rule_119 : decode cX6_rule 119 = .ok (.goto (-60), 3) := by decide +kernel
theorem dX6_rule_122 : decode cX6_rule 122 = .ok (.aload_n 0, 1) := by decide +kernel
theorem dX6_rule_123 : decode cX6_rule 123 = .ok (.getfield 71, 3) := by decide +kernel
theorem dX6_rule_126 : decode cX6_rule 126 = .ok (.iload 4, 2) := by decide +kernel
theorem dX6_rule_128 : decode cX6_rule 128 = .ok (.iload_n 3, 1) := by decide +kernel
theorem dX6_rule_129 : decode cX6_rule 129 = .ok (.iastore, 1) := by decide +kernel
theorem dX6_rule_130 : decode cX6_rule 130 = .ok (.iload_n 2, 1) := by decide +kernel
theorem dX6_rule_131 : decode cX6_rule 131 = .ok (.iconst 1, 1) := by decide +kernel
theorem dX6_rule_132 : decode cX6_rule 132 = .ok (.iadd, 1) := by decide +kernel
theorem dX6_rule_133 : decode cX6_rule 133 = .ok (.istore_n 2, 1) := by decide +kernel
theorem dX6_rule_134 : decode cX6_rule 134 = .ok (.iinc 3 1, 3) := by decide +kernel
theorem dX6_rule_137 : decode cX6_rule 137 = .ok (.goto (-120), 3) := by decide +kernel
theorem dX6_rule_140 : decode cX6_rule 140 = .ok (.iconst 0, 1) := by decide +kernel
theorem dX6_rule_141 : decode cX6_rule 141 = .ok (.istore_n 3, 1) := by decide +kernel
theorem dX6_rule_142 : decode cX6_rule 142 = .ok (.iconst 0, 1) := by decide +kernel
theorem dX6_rule_143 : decode cX6_rule 143 = .ok (.istore 4, 2) := by decide +kernel
theorem dX6_rule_145 : decode cX6_rule 145 = .ok (.iload 4, 2) := by decide +kernel
theorem dX6_rule_147 : decode cX6_rule 147 = .ok (.iload_n 2, 1) := by decide +kernel
theorem dX6_rule_148 : decode cX6_rule 148 = .ok (.if_icmp .ge 95, 3) := by decide +kernel
theorem dX6_rule_151 : decode cX6_rule 151 = .ok (.aload_n 0, 1) := by decide +kernel
theorem dX6_rule_152 : decode cX6_rule 152 = .ok (.getfield 71, 3) := by decide +kernel
theorem dX6_rule_155 : decode cX6_rule 155 = .ok (.iload 4, 2) := by decide +kernel
theorem dX6_rule_157 : decode cX6_rule 157 = .ok (.iaload, 1) := by decide +kernel
theorem dX6_rule_158 : decode cX6_rule 158 = .ok (.istore 5, 2) := by decide +kernel
theorem dX6_rule_160 : decode cX6_rule 160 = .ok (.aload_n 0, 1) := by decide +kernel
theorem dX6_rule_161 : decode cX6_rule 161 = .ok (.invokevirtual 110, 3) := by decide +kernel
theorem dX6_rule_164 : decode cX6_rule 164 = .ok (.ifCond .eq 73, 3) := by decide +kernel
theorem dX6_rule_167 : decode cX6_rule 167 = .ok (.aload_n 0, 1) := by decide +kernel
theorem dX6_rule_168 : decode cX6_rule 168 = .ok (.getfield 56, 3) := by decide +kernel
theorem dX6_rule_171 : decode cX6_rule 171 = .ok (.aload_n 0, 1) := by decide +kernel
theorem dX6_rule_172 : decode cX6_rule 172 = .ok (.getfield 22, 3) := by decide +kernel
theorem dX6_rule_175 : decode cX6_rule 175 = .ok (.iload 5, 2) := by decide +kernel
theorem dX6_rule_177 : decode cX6_rule 177 = .ok (.iaload, 1) := by decide +kernel
theorem dX6_rule_178 : decode cX6_rule 178 = .ok (.iaload, 1) := by decide +kernel
theorem dX6_rule_179 : decode cX6_rule 179 = .ok (.aload_n 0, 1) := by decide +kernel
theorem dX6_rule_180 : decode cX6_rule 180 = .ok (.getfield 28, 3) := by decide +kernel
theorem dX6_rule_183 : decode cX6_rule 183 = .ok (.iload 5, 2) := by decide +kernel
theorem dX6_rule_185 : decode cX6_rule 185 = .ok (.iaload, 1) := by decide +kernel
theorem dX6_rule_186 : decode cX6_rule 186 = .ok (.iadd, 1) := by decide +kernel
theorem dX6_rule_187 : decode cX6_rule 187 = .ok (.aload_n 0, 1) := by decide +kernel
theorem dX6_rule_188 : decode cX6_rule 188 = .ok (.getfield 13, 3) := by decide +kernel
theorem dX6_rule_191 : decode cX6_rule 191 = .ok (.aload_n 0, 1) := by decide +kernel
theorem dX6_rule_192 : decode cX6_rule 192 = .ok (.getfield 25, 3) := by decide +kernel
theorem dX6_rule_195 : decode cX6_rule 195 = .ok (.iload 5, 2) := by decide +kernel
theorem dX6_rule_197 : decode cX6_rule 197 = .ok (.iaload, 1) := by decide +kernel
theorem dX6_rule_198 : decode cX6_rule 198 = .ok (.iaload, 1) := by decide +kernel
theorem dX6_rule_199 : decode cX6_rule 199 = .ok (.isub, 1) := by decide +kernel
theorem dX6_rule_200 : decode cX6_rule 200 = .ok (.iload_n 1, 1) := by decide +kernel
theorem dX6_rule_201 : decode cX6_rule 201 = .ok (.if_icmp .le 6, 3) := by decide +kernel
theorem dX6_rule_204 : decode cX6_rule 204 = .ok (.goto 33, 3) := by decide +kernel
theorem dX6_rule_207 : decode cX6_rule 207 = .ok (.aload_n 0, 1) := by decide +kernel
theorem dX6_rule_208 : decode cX6_rule 208 = .ok (.getfield 31, 3) := by decide +kernel
theorem dX6_rule_211 : decode cX6_rule 211 = .ok (.iload 5, 2) := by decide +kernel
theorem dX6_rule_213 : decode cX6_rule 213 = .ok (.iconst 1, 1) := by decide +kernel
theorem dX6_rule_214 : decode cX6_rule 214 = .ok (.bastore, 1) := by decide +kernel
theorem dX6_rule_215 : decode cX6_rule 215 = .ok (.aload_n 0, 1) := by decide +kernel
theorem dX6_rule_216 : decode cX6_rule 216 = .ok (.invokevirtual 110, 3) := by decide +kernel
theorem dX6_rule_219 : decode cX6_rule 219 = .ok (.ifCond .eq 10, 3) := by decide +kernel
theorem dX6_rule_222 : decode cX6_rule 222 = .ok (.iload_n 3, 1) := by decide +kernel
theorem dX6_rule_223 : decode cX6_rule 223 = .ok (.iconst 1, 1) := by decide +kernel
theorem dX6_rule_224 : decode cX6_rule 224 = .ok (.iadd, 1) := by decide +kernel
theorem dX6_rule_225 : decode cX6_rule 225 = .ok (.istore_n 3, 1) := by decide +kernel
theorem dX6_rule_226 : decode cX6_rule 226 = .ok (.goto 11, 3) := by decide +kernel
theorem dX6_rule_229 : decode cX6_rule 229 = .ok (.aload_n 0, 1) := by decide +kernel
theorem dX6_rule_230 : decode cX6_rule 230 = .ok (.getfield 31, 3) := by decide +kernel
theorem dX6_rule_233 : decode cX6_rule 233 = .ok (.iload 5, 2) := by decide +kernel
theorem dX6_rule_235 : decode cX6_rule 235 = .ok (.iconst 0, 1) := by decide +kernel
theorem dX6_rule_236 : decode cX6_rule 236 = .ok (.bastore, 1) := by decide +kernel
theorem dX6_rule_237 : decode cX6_rule 237 = .ok (.iinc 4 1, 3) := by decide +kernel
theorem dX6_rule_240 : decode cX6_rule 240 = .ok (.goto (-95), 3) := by decide +kernel
theorem dX6_rule_243 : decode cX6_rule 243 = .ok (.iload_n 3, 1) := by decide +kernel
theorem dX6_rule_244 : decode cX6_rule 244 = .ok (.ireturn, 1) := by decide +kernel
set_option maxRecDepth 20000 in
theorem ggX6_recover_X6_spreads : GoodIn wsX6_recover wsX6_spreads := goodIn_r _ [7, 1, 2, 8, 9, 10, 11, 12, 13, 14, 15, 16, 17, 6, 18, 19, 20, 21, 22, 23, 24, 29, 30, 31, 32, 33, 34, 35, 36, 37, 38, 39, 40, 41, 42, 43, 44, 45, 46, 47, 48, 49, 50, 51, 52, 53, 54] (by decide +kernel) (by decide +kernel)
set_option maxRecDepth 20000 in
theorem gX6_recover_X6_spreads : GoodIn wsX6_recover (wsV RX6 110 RX6 yX6_spreads wsX6_spreads) := goodIn_app (goodIn_of _ (by decide +kernel)) ggX6_recover_X6_spreads
set_option maxRecDepth 20000 in
theorem ggX6_recover_X6_isThere : GoodIn wsX6_recover wsX6_isThere := goodIn_r _ [22, 23, 24, 29, 30, 31, 32, 33, 34, 35, 36, 37, 38, 39, 40, 41, 42, 43, 44, 45, 46, 47, 48, 49, 50, 51, 52, 53, 54] (by decide +kernel) (by decide +kernel)
set_option maxRecDepth 20000 in
theorem gX6_recover_X6_isThere : GoodIn wsX6_recover (wsV RX6 88 RX6 yX6_isThere wsX6_isThere) := goodIn_app (goodIn_of _ (by decide +kernel)) ggX6_recover_X6_isThere
set_option maxRecDepth 20000 in
theorem ggX6_recover_X6_late : GoodIn wsX6_recover wsX6_late := goodIn_r _ [28, 2, 8, 29, 30, 31, 32, 33, 34, 35, 36, 37, 38, 39, 40, 41, 42, 43, 44, 45, 46, 47, 48, 49, 50, 51, 52, 53, 54] (by decide +kernel) (by decide +kernel)
set_option maxRecDepth 20000 in
theorem gX6_recover_X6_late : GoodIn wsX6_recover (wsV RX6 103 RX6 yX6_late wsX6_late) := goodIn_app (goodIn_of _ (by decide +kernel)) ggX6_recover_X6_late
theorem dX6_recover_0 : decode cX6_recover 0 = .ok (.aload_n 0, 1) := by decide +kernel
theorem dX6_recover_1 : decode cX6_recover 1 = .ok (.invokevirtual 110, 3) := by decide +kernel
theorem dX6_recover_4 : decode cX6_recover 4 = .ok (.ifCond .ne 5, 3) := by decide +kernel
theorem dX6_recover_7 : decode cX6_recover 7 = .ok (.iconst (-1), 1) := by decide +kernel
theorem dX6_recover_8 : decode cX6_recover 8 = .ok (.ireturn, 1) := by decide +kernel
theorem dX6_recover_9 : decode cX6_recover 9 = .ok (.iconst (-1), 1) := by decide +kernel
theorem dX6_recover_10 : decode cX6_recover 10 = .ok (.istore_n 1, 1) := by decide +kernel
theorem dX6_recover_11 : decode cX6_recover 11 = .ok (.iconst 0, 1) := by decide +kernel
theorem dX6_recover_12 : decode cX6_recover 12 = .ok (.istore_n 2, 1) := by decide +kernel
theorem dX6_recover_13 : decode cX6_recover 13 = .ok (.iload_n 2, 1) := by decide +kernel
theorem dX6_recover_14 : decode cX6_recover 14 = .ok (.aload_n 0, 1) := by decide +kernel
theorem dX6_recover_15 : decode cX6_recover 15 = .ok (.getfield 77, 3) := by decide +kernel
theorem dX6_recover_18 : decode cX6_recover 18 = .ok (.if_icmp .ge 42, 3) := by decide +kernel
theorem dX6_recover_21 : decode cX6_recover 21 = .ok (.aload_n 0, 1) := by decide +kernel
theorem dX6_recover_22 : decode cX6_recover 22 = .ok (.iload_n 2, 1) := by decide +kernel
theorem dX6_recover_23 : decode cX6_recover 23 = .ok (.invokevirtual 88, 3) := by decide +kernel
theorem dX6_recover_26 : decode cX6_recover 26 = .ok (.ifCond .eq 28, 3) := by decide +kernel
theorem dX6_recover_29 : decode cX6_recover 29 = .ok (.aload_n 0, 1) := by decide +kernel
theorem dX6_recover_30 : decode cX6_recover 30 = .ok (.iload_n 2, 1) := by decide +kernel
theorem dX6_recover_31 : decode cX6_recover 31 = .ok (.invokevirtual 103, 3) := by decide +kernel
theorem dX6_recover_34 : decode cX6_recover 34 = .ok (.ifCond .le 20, 3) := by decide +kernel
theorem dX6_recover_37 : decode cX6_recover 37 = .ok (.aload_n 0, 1) := by decide +kernel
theorem dX6_recover_38 : decode cX6_recover 38 = .ok (.getfield 56, 3) := by decide +kernel
theorem dX6_recover_41 : decode cX6_recover 41 = .ok (.iload_n 2, 1) := by decide +kernel
theorem dX6_recover_42 : decode cX6_recover 42 = .ok (.iaload, 1) := by decide +kernel
theorem dX6_recover_43 : decode cX6_recover 43 = .ok (.iload_n 1, 1) := by decide +kernel
theorem dX6_recover_44 : decode cX6_recover 44 = .ok (.if_icmp .le 10, 3) := by decide +kernel
theorem dX6_recover_47 : decode cX6_recover 47 = .ok (.aload_n 0, 1) := by decide +kernel
theorem dX6_recover_48 : decode cX6_recover 48 = .ok (.getfield 56, 3) := by decide +kernel
theorem dX6_recover_51 : decode cX6_recover 51 = .ok (.iload_n 2, 1) := by decide +kernel
theorem dX6_recover_52 : decode cX6_recover 52 = .ok (.iaload, 1) := by decide +kernel
theorem dX6_recover_53 : decode cX6_recover 53 = .ok (.istore_n 1, 1) := by decide +kernel
theorem dX6_recover_54 : decode cX6_recover 54 = .ok (.iinc 2 1, 3) := by decide +kernel
theorem dX6_recover_57 : decode cX6_recover 57 = .ok (.goto (-44), 3) := by decide +kernel
theorem dX6_recover_60 : decode cX6_recover 60 = .ok (.iload_n 1, 1) := by decide +kernel
theorem dX6_recover_61 : decode cX6_recover 61 = .ok (.ireturn, 1) := by decide +kernel
set_option maxRecDepth 20000 in
theorem ggX6_lates_X6_spreads : GoodIn wsX6_lates wsX6_spreads := goodIn_r _ [6, 1, 7, 8, 9, 10, 11, 12, 13, 14, 15, 16, 17, 5, 18, 19, 20, 21, 22, 23, 24, 29, 30, 31, 32, 33, 34, 35, 36, 37, 38, 39, 40, 41, 42, 43, 44, 45, 46, 47, 48, 49, 50, 51, 52, 53, 54] (by decide +kernel) (by decide +kernel)
set_option maxRecDepth 20000 in
theorem gX6_lates_X6_spreads : GoodIn wsX6_lates (wsV RX6 110 RX6 yX6_spreads wsX6_spreads) := goodIn_app (goodIn_of _ (by decide +kernel)) ggX6_lates_X6_spreads
set_option maxRecDepth 20000 in
theorem ggX6_lates_X6_isThere : GoodIn wsX6_lates wsX6_isThere := goodIn_r _ [22, 23, 24, 29, 30, 31, 32, 33, 34, 35, 36, 37, 38, 39, 40, 41, 42, 43, 44, 45, 46, 47, 48, 49, 50, 51, 52, 53, 54] (by decide +kernel) (by decide +kernel)
set_option maxRecDepth 20000 in
theorem gX6_lates_X6_isThere : GoodIn wsX6_lates (wsV RX6 88 RX6 yX6_isThere wsX6_isThere) := goodIn_app (goodIn_of _ (by decide +kernel)) ggX6_lates_X6_isThere
set_option maxRecDepth 20000 in
theorem ggX6_lates_X6_late : GoodIn wsX6_lates wsX6_late := goodIn_r _ [28, 7, 8, 29, 30, 31, 32, 33, 34, 35, 36, 37, 38, 39, 40, 41, 42, 43, 44, 45, 46, 47, 48, 49, 50, 51, 52, 53, 54] (by decide +kernel) (by decide +kernel)
set_option maxRecDepth 20000 in
theorem gX6_lates_X6_late : GoodIn wsX6_lates (wsV RX6 103 RX6 yX6_late wsX6_late) := goodIn_app (goodIn_of _ (by decide +kernel)) ggX6_lates_X6_late
theorem dX6_lates_0 : decode cX6_lates 0 = .ok (.aload_n 0, 1) := by decide +kernel
theorem dX6_lates_1 : decode cX6_lates 1 = .ok (.invokevirtual 110, 3) := by decide +kernel
theorem dX6_lates_4 : decode cX6_lates 4 = .ok (.ifCond .ne 5, 3) := by decide +kernel
theorem dX6_lates_7 : decode cX6_lates 7 = .ok (.iconst 0, 1) := by decide +kernel
theorem dX6_lates_8 : decode cX6_lates 8 = .ok (.ireturn, 1) := by decide +kernel
theorem dX6_lates_9 : decode cX6_lates 9 = .ok (.iconst 0, 1) := by decide +kernel
theorem dX6_lates_10 : decode cX6_lates 10 = .ok (.istore_n 2, 1) := by decide +kernel
theorem dX6_lates_11 : decode cX6_lates 11 = .ok (.iconst 0, 1) := by decide +kernel
theorem dX6_lates_12 : decode cX6_lates 12 = .ok (.istore_n 3, 1) := by decide +kernel
theorem dX6_lates_13 : decode cX6_lates 13 = .ok (.iload_n 3, 1) := by decide +kernel
theorem dX6_lates_14 : decode cX6_lates 14 = .ok (.aload_n 0, 1) := by decide +kernel
theorem dX6_lates_15 : decode cX6_lates 15 = .ok (.getfield 77, 3) := by decide +kernel
theorem dX6_lates_18 : decode cX6_lates 18 = .ok (.if_icmp .ge 41, 3) := by decide +kernel
theorem dX6_lates_21 : decode cX6_lates 21 = .ok (.aload_n 0, 1) := by decide +kernel
theorem dX6_lates_22 : decode cX6_lates 22 = .ok (.iload_n 3, 1) := by decide +kernel
theorem dX6_lates_23 : decode cX6_lates 23 = .ok (.invokevirtual 88, 3) := by decide +kernel
theorem dX6_lates_26 : decode cX6_lates 26 = .ok (.ifCond .eq 27, 3) := by decide +kernel
theorem dX6_lates_29 : decode cX6_lates 29 = .ok (.aload_n 0, 1) := by decide +kernel
theorem dX6_lates_30 : decode cX6_lates 30 = .ok (.iload_n 3, 1) := by decide +kernel
theorem dX6_lates_31 : decode cX6_lates 31 = .ok (.invokevirtual 103, 3) := by decide +kernel
theorem dX6_lates_34 : decode cX6_lates 34 = .ok (.ifCond .le 19, 3) := by decide +kernel
theorem dX6_lates_37 : decode cX6_lates 37 = .ok (.iload_n 2, 1) := by decide +kernel
theorem dX6_lates_38 : decode cX6_lates 38 = .ok (.iload_n 1, 1) := by decide +kernel
theorem dX6_lates_39 : decode cX6_lates 39 = .ok (.ifCond .eq 11, 3) := by decide +kernel
theorem dX6_lates_42 : decode cX6_lates 42 = .ok (.aload_n 0, 1) := by decide +kernel
theorem dX6_lates_43 : decode cX6_lates 43 = .ok (.iload_n 3, 1) := by decide +kernel
theorem dX6_lates_44 : decode cX6_lates 44 = .ok (.invokevirtual 103, 3) := by decide +kernel
theorem dX6_lates_47 : decode cX6_lates 47 = .ok (.goto 4, 3) := by decide +kernel
theorem dX6_lates_50 : decode cX6_lates 50 = .ok (.iconst 1, 1) := by decide +kernel
theorem dX6_lates_51 : decode cX6_lates 51 = .ok (.iadd, 1) := by decide +kernel
theorem dX6_lates_52 : decode cX6_lates 52 = .ok (.istore_n 2, 1) := by decide +kernel
theorem dX6_lates_53 : decode cX6_lates 53 = .ok (.iinc 3 1, 3) := by decide +kernel
theorem dX6_lates_56 : decode cX6_lates 56 = .ok (.goto (-43), 3) := by decide +kernel
theorem dX6_lates_59 : decode cX6_lates 59 = .ok (.iload_n 2, 1) := by decide +kernel
theorem dX6_lates_60 : decode cX6_lates 60 = .ok (.ireturn, 1) := by decide +kernel
set_option maxRecDepth 20000 in
theorem ggX6_count_X6_lates : GoodIn wsX6_count wsX6_lates := goodIn_r _ [15, 1, 16, 17, 18, 14, 19, 20, 7, 21, 2, 5, 9, 10, 8, 22, 23, 24, 25, 26, 27, 28, 29, 6, 30, 31, 32, 33, 34, 35, 36, 37, 38, 39, 40, 41, 42, 43, 44, 45, 46, 47, 48, 49, 50, 51, 52, 53, 54, 55, 56, 57, 58, 59, 60] (by decide +kernel) (by decide +kernel)
set_option maxRecDepth 20000 in
theorem gX6_count_X6_lates : GoodIn wsX6_count (wsV RX6 158 RX6 yX6_lates wsX6_lates) := goodIn_app (goodIn_of _ (by decide +kernel)) ggX6_count_X6_lates
theorem dX6_count_0 : decode cX6_count 0 = .ok (.iconst 0, 1) := by decide +kernel
theorem dX6_count_1 : decode cX6_count 1 = .ok (.istore_n 2, 1) := by decide +kernel
theorem dX6_count_2 : decode cX6_count 2 = .ok (.iload_n 1, 1) := by decide +kernel
theorem dX6_count_3 : decode cX6_count 3 = .ok (.tableswitch 209 0 7 #[45, 50, 55, 60, 105, 111, 117, 150], 45) := by decide +kernel
theorem dX6_count_48 : decode cX6_count 48 = .ok (.aload_n 0, 1) := by decide +kernel
theorem dX6_count_49 : decode cX6_count 49 = .ok (.getfield 77, 3) := by decide +kernel
theorem dX6_count_52 : decode cX6_count 52 = .ok (.ireturn, 1) := by decide +kernel
theorem dX6_count_53 : decode cX6_count 53 = .ok (.aload_n 0, 1) := by decide +kernel
theorem dX6_count_54 : decode cX6_count 54 = .ok (.getfield 81, 3) := by decide +kernel
theorem dX6_count_57 : decode cX6_count 57 = .ok (.ireturn, 1) := by decide +kernel
theorem dX6_count_58 : decode cX6_count 58 = .ok (.aload_n 0, 1) := by decide +kernel
theorem dX6_count_59 : decode cX6_count 59 = .ok (.getfield 97, 3) := by decide +kernel
theorem dX6_count_62 : decode cX6_count 62 = .ok (.ireturn, 1) := by decide +kernel
theorem dX6_count_63 : decode cX6_count 63 = .ok (.iconst 0, 1) := by decide +kernel
theorem dX6_count_64 : decode cX6_count 64 = .ok (.istore_n 3, 1) := by decide +kernel
theorem dX6_count_65 : decode cX6_count 65 = .ok (.iload_n 3, 1) := by decide +kernel
theorem dX6_count_66 : decode cX6_count 66 = .ok (.aload_n 0, 1) := by decide +kernel
theorem dX6_count_67 : decode cX6_count 67 = .ok (.getfield 81, 3) := by decide +kernel
theorem dX6_count_70 : decode cX6_count 70 = .ok (.if_icmp .ge 36, 3) := by decide +kernel
theorem dX6_count_73 : decode cX6_count 73 = .ok (.iload_n 2, 1) := by decide +kernel
theorem dX6_count_74 : decode cX6_count 74 = .ok (.aload_n 0, 1) := by decide +kernel
theorem dX6_count_75 : decode cX6_count 75 = .ok (.getfield 19, 3) := by decide +kernel
theorem dX6_count_78 : decode cX6_count 78 = .ok (.iload_n 3, 1) := by decide +kernel
theorem dX6_count_79 : decode cX6_count 79 = .ok (.iaload, 1) := by decide +kernel
theorem dX6_count_80 : decode cX6_count 80 = .ok (.iconst 2, 1) := by decide +kernel
theorem dX6_count_81 : decode cX6_count 81 = .ok (.if_icmp .ne 16, 3) := by decide +kernel
theorem dX6_count_84 : decode cX6_count 84 = .ok (.aload_n 0, 1) := by decide +kernel
theorem dX6_count_85 : decode cX6_count 85 = .ok (.getfield 31, 3) := by decide +kernel
theorem dX6_count_88 : decode cX6_count 88 = .ok (.iload_n 3, 1) := by decide +kernel
theorem dX6_count_89 : decode cX6_count 89 = .ok (.baload, 1) := by decide +kernel
theorem dX6_count_90 : decode cX6_count 90 = .ok (.ifCond .eq 7, 3) := by decide +kernel
theorem dX6_count_93 : decode cX6_count 93 = .ok (.iconst 1, 1) := by decide +kernel
theorem dX6_count_94 : decode cX6_count 94 = .ok (.goto 4, 3) := by decide +kernel
theorem dX6_count_97 : decode cX6_count 97 = .ok (.iconst 0, 1) := by decide +kernel
theorem dX6_count_98 : decode cX6_count 98 = .ok (.iadd, 1) := by decide +kernel
theorem dX6_count_99 : decode cX6_count 99 = .ok (.istore_n 2, 1) := by decide +kernel
theorem dX6_count_100 : decode cX6_count 100 = .ok (.iinc 3 1, 3) := by decide +kernel
theorem dX6_count_103 : decode cX6_count 103 = .ok (.goto (-38), 3) := by decide +kernel
theorem dX6_count_106 : decode cX6_count 106 = .ok (.iload_n 2, 1) := by decide +kernel
theorem dX6_count_107 : decode cX6_count 107 = .ok (.ireturn, 1) := by decide +kernel
theorem dX6_count_108 : decode cX6_count 108 = .ok (.aload_n 0, 1) := by decide +kernel
theorem dX6_count_109 : decode cX6_count 109 = .ok (.iconst 0, 1) := by decide +kernel
theorem dX6_count_110 : decode cX6_count 110 = .ok (.invokevirtual 158, 3) := by decide +kernel
theorem dX6_count_113 : decode cX6_count 113 = .ok (.ireturn, 1) := by decide +kernel
theorem dX6_count_114 : decode cX6_count 114 = .ok (.aload_n 0, 1) := by decide +kernel
theorem dX6_count_115 : decode cX6_count 115 = .ok (.iconst 1, 1) := by decide +kernel
theorem dX6_count_116 : decode cX6_count 116 = .ok (.invokevirtual 158, 3) := by decide +kernel
theorem dX6_count_119 : decode cX6_count 119 = .ok (.ireturn, 1) := by decide +kernel
theorem dX6_count_120 : decode cX6_count 120 = .ok (.iconst 0, 1) := by decide +kernel
theorem dX6_count_121 : decode cX6_count 121 = .ok (.istore_n 3, 1) := by decide +kernel
theorem dX6_count_122 : decode cX6_count 122 = .ok (.iload_n 3, 1) := by decide +kernel
theorem dX6_count_123 : decode cX6_count 123 = .ok (.bipush 16, 2) := by decide +kernel
theorem dX6_count_125 : decode cX6_count 125 = .ok (.if_icmp .ge 26, 3) := by decide +kernel
theorem dX6_count_128 : decode cX6_count 128 = .ok (.iload_n 2, 1) := by decide +kernel
theorem dX6_count_129 : decode cX6_count 129 = .ok (.aload_n 0, 1) := by decide +kernel
theorem dX6_count_130 : decode cX6_count 130 = .ok (.getfield 35, 3) := by decide +kernel
theorem dX6_count_133 : decode cX6_count 133 = .ok (.iload_n 3, 1) := by decide +kernel
theorem dX6_count_134 : decode cX6_count 134 = .ok (.baload, 1) := by decide +kernel
theorem dX6_count_135 : decode cX6_count 135 = .ok (.ifCond .eq 7, 3) := by decide +kernel
theorem dX6_count_138 : decode cX6_count 138 = .ok (.iconst 1, 1) := by decide +kernel
theorem dX6_count_139 : decode cX6_count 139 = .ok (.goto 4, 3) := by decide +kernel
theorem dX6_count_142 : decode cX6_count 142 = .ok (.iconst 0, 1) := by decide +kernel
theorem dX6_count_143 : decode cX6_count 143 = .ok (.iadd, 1) := by decide +kernel
theorem dX6_count_144 : decode cX6_count 144 = .ok (.istore_n 2, 1) := by decide +kernel
theorem dX6_count_145 : decode cX6_count 145 = .ok (.iinc 3 1, 3) := by decide +kernel
theorem dX6_count_148 : decode cX6_count 148 = .ok (.goto (-26), 3) := by decide +kernel
theorem dX6_count_151 : decode cX6_count 151 = .ok (.iload_n 2, 1) := by decide +kernel
theorem dX6_count_152 : decode cX6_count 152 = .ok (.ireturn, 1) := by decide +kernel
theorem dX6_count_153 : decode cX6_count 153 = .ok (.iconst 0, 1) := by decide +kernel
theorem dX6_count_154 : decode cX6_count 154 = .ok (.istore_n 3, 1) := by decide +kernel
theorem dX6_count_155 : decode cX6_count 155 = .ok (.iload_n 3, 1) := by decide +kernel
theorem dX6_count_156 : decode cX6_count 156 = .ok (.aload_n 0, 1) := by decide +kernel
theorem dX6_count_157 : decode cX6_count 157 = .ok (.getfield 81, 3) := by decide +kernel
theorem dX6_count_160 : decode cX6_count 160 = .ok (.if_icmp .ge 50, 3) := by decide +kernel
theorem dX6_count_163 : decode cX6_count 163 = .ok (.iload_n 2, 1) := by decide +kernel
theorem dX6_count_164 : decode cX6_count 164 = .ok (.aload_n 0, 1) := by decide +kernel
theorem dX6_count_165 : decode cX6_count 165 = .ok (.getfield 13, 3) := by decide +kernel
theorem dX6_count_168 : decode cX6_count 168 = .ok (.aload_n 0, 1) := by decide +kernel
theorem dX6_count_169 : decode cX6_count 169 = .ok (.getfield 25, 3) := by decide +kernel
theorem dX6_count_172 : decode cX6_count 172 = .ok (.iload_n 3, 1) := by decide +kernel
theorem dX6_count_173 : decode cX6_count 173 = .ok (.iaload, 1) := by decide +kernel
theorem dX6_count_174 : decode cX6_count 174 = .ok (.iaload, 1) := by decide +kernel
theorem dX6_count_175 : decode cX6_count 175 = .ok (.aload_n 0, 1) := by decide +kernel
theorem dX6_count_176 : decode cX6_count 176 = .ok (.getfield 13, 3) := by decide +kernel
theorem dX6_count_179 : decode cX6_count 179 = .ok (.aload_n 0, 1) := by decide +kernel
theorem dX6_count_180 : decode cX6_count 180 = .ok (.getfield 22, 3) := by decide +kernel
theorem dX6_count_183 : decode cX6_count 183 = .ok (.iload_n 3, 1) := by decide +kernel
theorem dX6_count_184 : decode cX6_count 184 = .ok (.iaload, 1) := by decide +kernel
theorem dX6_count_185 : decode cX6_count 185 = .ok (.iaload, 1) := by decide +kernel
theorem dX6_count_186 : decode cX6_count 186 = .ok (.isub, 1) := by decide +kernel
theorem dX6_count_187 : decode cX6_count 187 = .ok (.aload_n 0, 1) := by decide +kernel
theorem dX6_count_188 : decode cX6_count 188 = .ok (.getfield 28, 3) := by decide +kernel
theorem dX6_count_191 : decode cX6_count 191 = .ok (.iload_n 3, 1) := by decide +kernel
theorem dX6_count_192 : decode cX6_count 192 = .ok (.iaload, 1) := by decide +kernel
theorem dX6_count_193 : decode cX6_count 193 = .ok (.isub, 1) := by decide +kernel
theorem dX6_count_194 : decode cX6_count 194 = .ok (.ifCond .ge 7, 3) := by decide +kernel
theorem dX6_count_197 : decode cX6_count 197 = .ok (.iconst 1, 1) := by decide +kernel
theorem dX6_count_198 : decode cX6_count 198 = .ok (.goto 4, 3) := by decide +kernel
theorem dX6_count_201 : decode cX6_count 201 = .ok (.iconst 0, 1) := by decide +kernel
theorem dX6_count_202 : decode cX6_count 202 = .ok (.iadd, 1) := by decide +kernel
theorem dX6_count_203 : decode cX6_count 203 = .ok (.istore_n 2, 1) := by decide +kernel
theorem dX6_count_204 : decode cX6_count 204 = .ok (.iinc 3 1, 3) := by decide +kernel
theorem dX6_count_207 : decode cX6_count 207 = .ok (.goto (-52), 3) := by decide +kernel
theorem dX6_count_210 : decode cX6_count 210 = .ok (.iload_n 2, 1) := by decide +kernel
theorem dX6_count_211 : decode cX6_count 211 = .ok (.ireturn, 1) := by decide +kernel
theorem dX6_count_212 : decode cX6_count 212 = .ok (.iconst (-1), 1) := by decide +kernel
theorem dX6_count_213 : decode cX6_count 213 = .ok (.ireturn, 1) := by decide +kernel
theorem dJ9_max_7cf53_0 : decode cJ9_max_7cf53 0 = .ok (.iload_n 0, 1) := by decide +kernel
theorem dJ9_max_7cf53_1 : decode cJ9_max_7cf53 1 = .ok (.iload_n 1, 1) := by decide +kernel
theorem dJ9_max_7cf53_2 : decode cJ9_max_7cf53 2 = .ok (.if_icmp .lt 7, 3) := by decide +kernel
theorem dJ9_max_7cf53_5 : decode cJ9_max_7cf53 5 = .ok (.iload_n 0, 1) := by decide +kernel
theorem dJ9_max_7cf53_6 : decode cJ9_max_7cf53 6 = .ok (.goto 4, 3) := by decide +kernel
theorem dJ9_max_7cf53_9 : decode cJ9_max_7cf53 9 = .ok (.iload_n 1, 1) := by decide +kernel
theorem dJ9_max_7cf53_10 : decode cJ9_max_7cf53 10 = .ok (.ireturn, 1) := by decide +kernel
theorem dJ7_fill_53178_0 : decode cJ7_fill_53178 0 = .ok (.iconst 0, 1) := by decide +kernel
theorem dJ7_fill_53178_1 : decode cJ7_fill_53178 1 = .ok (.istore_n 2, 1) := by decide +kernel
theorem dJ7_fill_53178_2 : decode cJ7_fill_53178 2 = .ok (.aload_n 0, 1) := by decide +kernel
theorem dJ7_fill_53178_3 : decode cJ7_fill_53178 3 = .ok (.arraylength, 1) := by decide +kernel
theorem dJ7_fill_53178_4 : decode cJ7_fill_53178 4 = .ok (.istore_n 3, 1) := by decide +kernel
theorem dJ7_fill_53178_5 : decode cJ7_fill_53178 5 = .ok (.iload_n 2, 1) := by decide +kernel
theorem dJ7_fill_53178_6 : decode cJ7_fill_53178 6 = .ok (.iload_n 3, 1) := by decide +kernel
theorem dJ7_fill_53178_7 : decode cJ7_fill_53178 7 = .ok (.if_icmp .ge 13, 3) := by decide +kernel
theorem dJ7_fill_53178_10 : decode cJ7_fill_53178 10 = .ok (.aload_n 0, 1) := by decide +kernel
theorem dJ7_fill_53178_11 : decode cJ7_fill_53178 11 = .ok (.iload_n 2, 1) := by decide +kernel
theorem dJ7_fill_53178_12 : decode cJ7_fill_53178 12 = .ok (.iload_n 1, 1) := by decide +kernel
theorem dJ7_fill_53178_13 : decode cJ7_fill_53178 13 = .ok (.iastore, 1) := by decide +kernel
theorem dJ7_fill_53178_14 : decode cJ7_fill_53178 14 = .ok (.iinc 2 1, 3) := by decide +kernel
theorem dJ7_fill_53178_17 : decode cJ7_fill_53178 17 = .ok (.goto (-12), 3) := by decide +kernel
theorem dJ7_fill_53178_20 : decode cJ7_fill_53178 20 = .ok (.return_, 1) := by decide +kernel
theorem gb_wsX5_init_r1 : GoodIn wsL_law wsX5_init_r1 := (goodIn_c wL_9 (goodIn_c wL_10 (goodIn_c wL_11 (goodIn_c wL_12 (goodIn_c wL_13 (goodIn_c wL_14 (goodIn_c wL_15 (goodIn_c wL_16 (goodIn_c wL_17 (goodIn_c wL_18 (goodIn_c wL_19 (goodIn_c wL_20 (goodIn_c wL_21 (goodIn_c wL_22 (goodIn_c wL_23 (goodIn_c wL_24 (goodIn_c wL_25 (goodIn_c wL_26 (goodIn_c wL_27 (goodIn_c wL_28 (goodIn_c wL_29 (goodIn_c wL_30 (goodIn_c wL_31 (goodIn_c wL_32 goodIn_n))))))))))))))))))))))))
theorem gb_wsX5_init_r2 : GoodIn wsL_law wsX5_init_r2 := (goodIn_c wL_33 (goodIn_c wL_34 (goodIn_c wL_35 (goodIn_c wL_36 (goodIn_c wL_37 (goodIn_c wL_38 (goodIn_c wL_39 (goodIn_c wL_40 (goodIn_c wL_41 (goodIn_c wL_42 (goodIn_c wL_43 (goodIn_c wL_44 (goodIn_c wL_45 (goodIn_c wL_46 (goodIn_c wL_47 (goodIn_c wL_48 (goodIn_c wL_49 (goodIn_c wL_50 (goodIn_c wL_51 (goodIn_c wL_52 (goodIn_c wL_53 (goodIn_c wL_54 (goodIn_c wL_55 (goodIn_c wL_56 goodIn_n))))))))))))))))))))))))
theorem gb_wsX5_init_r3 : GoodIn wsL_law wsX5_init_r3 := (goodIn_c wL_57 (goodIn_c wL_58 (goodIn_c wL_59 (goodIn_c wL_60 (goodIn_c wL_61 (goodIn_c wL_62 (goodIn_c wL_63 (goodIn_c wL_64 (goodIn_c wL_65 (goodIn_c wL_66 (goodIn_c wL_67 (goodIn_c wL_68 (goodIn_c wL_69 (goodIn_c wL_70 (goodIn_c wL_71 (goodIn_c wL_72 (goodIn_c wL_73 (goodIn_c wL_74 (goodIn_c wL_75 (goodIn_c wL_76 (goodIn_c wL_77 (goodIn_c wL_78 (goodIn_c wL_79 (goodIn_c wL_80 goodIn_n))))))))))))))))))))))))
theorem gb_wsX5_init_r4 : GoodIn wsL_law wsX5_init_r4 := (goodIn_c wL_81 (goodIn_c wL_82 (goodIn_c wL_83 (goodIn_c wL_84 (goodIn_c wL_85 (goodIn_c wL_86 (goodIn_c wL_87 (goodIn_c wL_88 (goodIn_c wL_89 (goodIn_c wL_90 (goodIn_c wL_91 (goodIn_c wL_92 (goodIn_c wL_93 (goodIn_c wL_94 (goodIn_c wL_95 (goodIn_c wL_96 (goodIn_c wL_97 (goodIn_c wL_98 (goodIn_c wL_99 (goodIn_c wL_100 goodIn_n))))))))))))))))))))
theorem ggL_law_X5_init : GoodIn wsL_law wsX5_init := (goodIn_c wL_8 (goodIn_app (goodIn_app (goodIn_app (goodIn_app (goodIn_app (goodIn_app (goodIn_app gb_wsX5_init_r1 (goodIn_app gb_wsX5_init_r2 (goodIn_app gb_wsX5_init_r3 gb_wsX5_init_r4))) bk_wsX10) bk_wsX50) bk_wsX40) bk_wsX20) bk_wsX00) bk_wsX30))
set_option maxRecDepth 20000 in
theorem gL_law_X5_init : GoodIn wsL_law (wsX5_init) := ggL_law_X5_init
theorem gb_wsX6_init_r1 : GoodIn wsL_law wsX6_init_r1 := (goodIn_c wL_104 (goodIn_c wL_10 (goodIn_c wL_11 (goodIn_c wL_32 (goodIn_c wL_105 (goodIn_c wL_106 (goodIn_c wL_107 (goodIn_c wL_108 (goodIn_c wL_109 (goodIn_c wL_110 (goodIn_c wL_111 (goodIn_c wL_44 (goodIn_c wL_112 (goodIn_c wL_113 (goodIn_c wL_114 (goodIn_c wL_115 (goodIn_c wL_116 (goodIn_c wL_117 (goodIn_c wL_118 (goodIn_c wL_119 (goodIn_c wL_120 (goodIn_c wL_121 (goodIn_c wL_122 (goodIn_c wL_123 goodIn_n))))))))))))))))))))))))
theorem gb_wsX6_init_r2 : GoodIn wsL_law wsX6_init_r2 := (goodIn_c wL_124 (goodIn_c wL_125 (goodIn_c wL_126 goodIn_n)))
theorem ggL_law_X6_init : GoodIn wsL_law wsX6_init := (goodIn_c wL_103 (goodIn_app (goodIn_app gb_wsX6_init_r1 gb_wsX6_init_r2) bk_wsX60))
set_option maxRecDepth 20000 in
theorem gL_law_X6_init : GoodIn wsL_law (wsX6_init) := ggL_law_X6_init
theorem ggL_law_X5_event : GoodIn wsL_law wsX5_event := (goodIn_c wL_130 (goodIn_app (goodIn_app (goodIn_c wL_15 (goodIn_c wL_131 (goodIn_c wL_132 (goodIn_c wL_133 (goodIn_c wL_2 (goodIn_c wL_134 (goodIn_c wL_135 (goodIn_c wL_136 (goodIn_c wL_137 (goodIn_c wL_138 (goodIn_c wL_35 (goodIn_c wL_37 (goodIn_c wL_139 (goodIn_c wL_140 (goodIn_c wL_141 (goodIn_c wL_14 (goodIn_c wL_142 (goodIn_c wL_41 (goodIn_c wL_52 (goodIn_c wL_42 (goodIn_c wL_43 (goodIn_c wL_45 (goodIn_c wL_51 goodIn_n))))))))))))))))))))))) bk_wsX50) bk_wsX10))
theorem gL_law_X5_event : GoodIn wsL_law (wsV RL 13 RX5 yX5_event wsX5_event) := (goodIn_c wL_127 (goodIn_c wL_128 (goodIn_c wL_129 (goodIn_c wL_2 ggL_law_X5_event))))
theorem ggL_law_X6_event : GoodIn wsL_law wsX6_event := (goodIn_c wL_146 (goodIn_app (goodIn_c wL_147 (goodIn_c wL_105 (goodIn_c wL_106 (goodIn_c wL_107 goodIn_n)))) bk_wsX60))
theorem gL_law_X6_event : GoodIn wsL_law (wsV RL 17 RX6 yX6_event wsX6_event) := (goodIn_c wL_143 (goodIn_c wL_144 (goodIn_c wL_145 (goodIn_c wL_5 ggL_law_X6_event))))
theorem gb_wsX5_activity_r1 : GoodIn wsL_law wsX5_activity_r1 := (goodIn_c wL_15 (goodIn_c wL_152 (goodIn_c wL_132 (goodIn_c wL_133 (goodIn_c wL_2 (goodIn_c wL_134 (goodIn_c wL_153 (goodIn_c wL_154 (goodIn_c wL_155 (goodIn_c wL_14 (goodIn_c wL_156 (goodIn_c wL_41 (goodIn_c wL_157 (goodIn_c wL_158 (goodIn_c wL_159 (goodIn_c wL_160 (goodIn_c wL_52 (goodIn_c wL_135 (goodIn_c wL_136 (goodIn_c wL_137 (goodIn_c wL_138 (goodIn_c wL_35 (goodIn_c wL_37 (goodIn_c wL_161 goodIn_n))))))))))))))))))))))))
theorem gb_wsX5_activity_r2 : GoodIn wsL_law wsX5_activity_r2 := (goodIn_c wL_162 (goodIn_c wL_163 (goodIn_c wL_164 (goodIn_c wL_46 (goodIn_c wL_53 (goodIn_c wL_47 (goodIn_c wL_48 (goodIn_c wL_49 (goodIn_c wL_50 goodIn_n)))))))))
theorem ggL_law_X5_activity : GoodIn wsL_law wsX5_activity := (goodIn_c wL_151 (goodIn_app (goodIn_app (goodIn_app gb_wsX5_activity_r1 gb_wsX5_activity_r2) bk_wsX50) bk_wsX10))
theorem gL_law_X5_activity : GoodIn wsL_law (wsV RL 18 RX5 yX5_activity wsX5_activity) := (goodIn_c wL_148 (goodIn_c wL_149 (goodIn_c wL_150 (goodIn_c wL_2 ggL_law_X5_activity))))
theorem ggL_law_X6_activity : GoodIn wsL_law wsX6_activity := (goodIn_c wL_168 (goodIn_app (goodIn_c wL_169 (goodIn_c wL_105 (goodIn_c wL_108 (goodIn_c wL_109 (goodIn_c wL_110 (goodIn_c wL_111 (goodIn_c wL_112 (goodIn_c wL_170 (goodIn_c wL_171 (goodIn_c wL_172 (goodIn_c wL_5 (goodIn_c wL_173 (goodIn_c wL_147 goodIn_n))))))))))))) bk_wsX60))
theorem gL_law_X6_activity : GoodIn wsL_law (wsV RL 22 RX6 yX6_activity wsX6_activity) := (goodIn_c wL_165 (goodIn_c wL_166 (goodIn_c wL_167 (goodIn_c wL_5 ggL_law_X6_activity))))
theorem ggL_law_X5_source : GoodIn wsL_law wsX5_source := (goodIn_c wL_177 (goodIn_app (goodIn_app (goodIn_c wL_15 (goodIn_c wL_178 (goodIn_c wL_179 (goodIn_c wL_158 (goodIn_c wL_159 (goodIn_c wL_14 (goodIn_c wL_160 (goodIn_c wL_52 (goodIn_c wL_132 (goodIn_c wL_133 (goodIn_c wL_2 (goodIn_c wL_134 (goodIn_c wL_135 (goodIn_c wL_136 (goodIn_c wL_137 (goodIn_c wL_138 (goodIn_c wL_35 (goodIn_c wL_37 goodIn_n)))))))))))))))))) bk_wsX50) bk_wsX10))
theorem gL_law_X5_source : GoodIn wsL_law (wsV RL 23 RX5 yX5_source wsX5_source) := (goodIn_c wL_174 (goodIn_c wL_175 (goodIn_c wL_176 (goodIn_c wL_2 ggL_law_X5_source))))
theorem ggL_law_X6_source : GoodIn wsL_law wsX6_source := (goodIn_c wL_183 (goodIn_app (goodIn_c wL_107 (goodIn_c wL_170 (goodIn_c wL_171 (goodIn_c wL_172 (goodIn_c wL_5 (goodIn_c wL_173 (goodIn_c wL_147 goodIn_n))))))) bk_wsX60))
theorem gL_law_X6_source : GoodIn wsL_law (wsV RL 27 RX6 yX6_source wsX6_source) := (goodIn_c wL_180 (goodIn_c wL_181 (goodIn_c wL_182 (goodIn_c wL_5 ggL_law_X6_source))))
theorem ggL_law_X5_keep : GoodIn wsL_law wsX5_keep := (goodIn_c wL_187 (goodIn_app (goodIn_app (goodIn_c wL_15 (goodIn_c wL_188 (goodIn_c wL_189 (goodIn_c wL_190 (goodIn_c wL_191 (goodIn_c wL_14 (goodIn_c wL_192 (goodIn_c wL_46 (goodIn_c wL_193 (goodIn_c wL_194 (goodIn_c wL_195 (goodIn_c wL_196 (goodIn_c wL_53 (goodIn_c wL_135 (goodIn_c wL_136 (goodIn_c wL_137 (goodIn_c wL_2 (goodIn_c wL_138 (goodIn_c wL_35 (goodIn_c wL_37 goodIn_n)))))))))))))))))))) bk_wsX50) bk_wsX10))
theorem gL_law_X5_keep : GoodIn wsL_law (wsV RL 28 RX5 yX5_keep wsX5_keep) := (goodIn_c wL_184 (goodIn_c wL_185 (goodIn_c wL_186 (goodIn_c wL_2 ggL_law_X5_keep))))
theorem ggL_law_X6_keep : GoodIn wsL_law wsX6_keep := (goodIn_c wL_200 (goodIn_app (goodIn_c wL_112 (goodIn_c wL_201 (goodIn_c wL_202 (goodIn_c wL_203 (goodIn_c wL_5 (goodIn_c wL_204 (goodIn_c wL_108 (goodIn_c wL_205 (goodIn_c wL_206 (goodIn_c wL_207 (goodIn_c wL_208 (goodIn_c wL_169 goodIn_n)))))))))))) bk_wsX60))
theorem gL_law_X6_keep : GoodIn wsL_law (wsV RL 32 RX6 yX6_keep wsX6_keep) := (goodIn_c wL_197 (goodIn_c wL_198 (goodIn_c wL_199 (goodIn_c wL_5 ggL_law_X6_keep))))
theorem ggL_law_X5_turn : GoodIn wsL_law wsX5_turn := (goodIn_c wL_212 (goodIn_app (goodIn_app (goodIn_c wL_15 (goodIn_c wL_213 (goodIn_c wL_214 (goodIn_c wL_189 (goodIn_c wL_190 (goodIn_c wL_191 (goodIn_c wL_14 (goodIn_c wL_192 (goodIn_c wL_46 (goodIn_c wL_193 (goodIn_c wL_194 (goodIn_c wL_195 (goodIn_c wL_196 (goodIn_c wL_53 (goodIn_c wL_135 (goodIn_c wL_136 (goodIn_c wL_137 (goodIn_c wL_2 (goodIn_c wL_138 (goodIn_c wL_35 (goodIn_c wL_37 goodIn_n))))))))))))))))))))) bk_wsX50) bk_wsX10))
theorem gL_law_X5_turn : GoodIn wsL_law (wsV RL 33 RX5 yX5_turn wsX5_turn) := (goodIn_c wL_209 (goodIn_c wL_210 (goodIn_c wL_211 (goodIn_c wL_2 ggL_law_X5_turn))))
theorem ggL_law_X6_turn : GoodIn wsL_law wsX6_turn := (goodIn_c wL_218 (goodIn_app (goodIn_c wL_108 (goodIn_c wL_109 (goodIn_c wL_110 (goodIn_c wL_205 (goodIn_c wL_206 (goodIn_c wL_207 (goodIn_c wL_5 (goodIn_c wL_208 (goodIn_c wL_169 goodIn_n))))))))) bk_wsX60))
theorem gL_law_X6_turn : GoodIn wsL_law (wsV RL 37 RX6 yX6_turn wsX6_turn) := (goodIn_c wL_215 (goodIn_c wL_216 (goodIn_c wL_217 (goodIn_c wL_5 ggL_law_X6_turn))))
theorem ggL_law_X5_cancel : GoodIn wsL_law wsX5_cancel := (goodIn_c wL_222 (goodIn_app (goodIn_app (goodIn_c wL_15 (goodIn_c wL_223 (goodIn_c wL_132 (goodIn_c wL_133 (goodIn_c wL_2 (goodIn_c wL_134 (goodIn_c wL_224 (goodIn_c wL_225 (goodIn_c wL_226 (goodIn_c wL_14 (goodIn_c wL_227 (goodIn_c wL_51 (goodIn_c wL_52 (goodIn_c wL_41 (goodIn_c wL_45 (goodIn_c wL_135 (goodIn_c wL_136 (goodIn_c wL_137 (goodIn_c wL_138 (goodIn_c wL_35 (goodIn_c wL_37 goodIn_n))))))))))))))))))))) bk_wsX50) bk_wsX10))
theorem gL_law_X5_cancel : GoodIn wsL_law (wsV RL 38 RX5 yX5_cancel wsX5_cancel) := (goodIn_c wL_219 (goodIn_c wL_220 (goodIn_c wL_221 (goodIn_c wL_2 ggL_law_X5_cancel))))
theorem ggL_law_X6_cancel : GoodIn wsL_law wsX6_cancel := (goodIn_c wL_231 (goodIn_app (goodIn_c wL_113 goodIn_n) bk_wsX60))
theorem gL_law_X6_cancel : GoodIn wsL_law (wsV RL 41 RX6 yX6_cancel wsX6_cancel) := (goodIn_c wL_228 (goodIn_c wL_229 (goodIn_c wL_230 (goodIn_c wL_5 ggL_law_X6_cancel))))
theorem gb_wsX5_group_r1 : GoodIn wsL_law wsX5_group_r1 := (goodIn_c wL_19 (goodIn_c wL_236 (goodIn_c wL_132 (goodIn_c wL_133 (goodIn_c wL_2 (goodIn_c wL_134 (goodIn_c wL_237 (goodIn_c wL_238 (goodIn_c wL_239 (goodIn_c wL_18 (goodIn_c wL_240 (goodIn_c wL_65 (goodIn_c wL_241 (goodIn_c wL_242 (goodIn_c wL_158 (goodIn_c wL_159 (goodIn_c wL_14 (goodIn_c wL_160 (goodIn_c wL_52 (goodIn_c wL_243 (goodIn_c wL_244 (goodIn_c wL_245 (goodIn_c wL_246 (goodIn_c wL_247 goodIn_n))))))))))))))))))))))))
theorem gb_wsX5_group_r2 : GoodIn wsL_law wsX5_group_r2 := (goodIn_c wL_248 (goodIn_c wL_249 (goodIn_c wL_190 (goodIn_c wL_191 (goodIn_c wL_192 (goodIn_c wL_46 (goodIn_c wL_193 (goodIn_c wL_194 (goodIn_c wL_195 (goodIn_c wL_196 (goodIn_c wL_53 (goodIn_c wL_250 (goodIn_c wL_251 (goodIn_c wL_252 (goodIn_c wL_253 (goodIn_c wL_58 (goodIn_c wL_64 (goodIn_c wL_59 (goodIn_c wL_60 (goodIn_c wL_61 (goodIn_c wL_62 (goodIn_c wL_63 goodIn_n))))))))))))))))))))))
theorem ggL_law_X5_group : GoodIn wsL_law wsX5_group := (goodIn_c wL_235 (goodIn_app (goodIn_app (goodIn_app (goodIn_app gb_wsX5_group_r1 gb_wsX5_group_r2) bk_wsX50) bk_wsX40) bk_wsX10))
theorem gL_law_X5_group : GoodIn wsL_law (wsV RL 42 RX5 yX5_group wsX5_group) := (goodIn_c wL_232 (goodIn_c wL_233 (goodIn_c wL_234 (goodIn_c wL_2 ggL_law_X5_group))))
theorem gb_wsX6_group_r1 : GoodIn wsL_law wsX6_group_r1 := (goodIn_c wL_258 (goodIn_c wL_105 (goodIn_c wL_109 (goodIn_c wL_110 (goodIn_c wL_114 (goodIn_c wL_115 (goodIn_c wL_116 (goodIn_c wL_117 (goodIn_c wL_118 (goodIn_c wL_119 (goodIn_c wL_170 (goodIn_c wL_171 (goodIn_c wL_172 (goodIn_c wL_5 (goodIn_c wL_173 (goodIn_c wL_147 (goodIn_c wL_201 (goodIn_c wL_202 (goodIn_c wL_203 (goodIn_c wL_204 (goodIn_c wL_108 (goodIn_c wL_205 (goodIn_c wL_206 (goodIn_c wL_207 goodIn_n))))))))))))))))))))))))
theorem gb_wsX6_group_r2 : GoodIn wsL_law wsX6_group_r2 := (goodIn_c wL_208 (goodIn_c wL_169 goodIn_n))
theorem ggL_law_X6_group : GoodIn wsL_law wsX6_group := (goodIn_c wL_257 (goodIn_app (goodIn_app gb_wsX6_group_r1 gb_wsX6_group_r2) bk_wsX60))
theorem gL_law_X6_group : GoodIn wsL_law (wsV RL 46 RX6 yX6_group wsX6_group) := (goodIn_c wL_254 (goodIn_c wL_255 (goodIn_c wL_256 (goodIn_c wL_5 ggL_law_X6_group))))
theorem gb_wsX5_spread_r1 : GoodIn wsL_law wsX5_spread_r1 := (goodIn_c wL_263 (goodIn_c wL_264 (goodIn_c wL_265 (goodIn_c wL_2 (goodIn_c wL_266 (goodIn_c wL_35 (goodIn_c wL_15 (goodIn_c wL_33 (goodIn_c wL_36 (goodIn_c wL_267 (goodIn_c wL_268 (goodIn_c wL_269 (goodIn_c wL_14 (goodIn_c wL_270 (goodIn_c wL_52 (goodIn_c wL_42 (goodIn_c wL_43 (goodIn_c wL_271 (goodIn_c wL_272 (goodIn_c wL_273 (goodIn_c wL_274 (goodIn_c wL_275 (goodIn_c wL_276 (goodIn_c wL_277 goodIn_n))))))))))))))))))))))))
theorem gb_wsX5_spread_r2 : GoodIn wsL_law wsX5_spread_r2 := (goodIn_c wL_278 (goodIn_c wL_53 (goodIn_c wL_48 (goodIn_c wL_47 (goodIn_c wL_49 (goodIn_c wL_279 (goodIn_c wL_280 (goodIn_c wL_281 (goodIn_c wL_282 (goodIn_c wL_283 (goodIn_c wL_284 (goodIn_c wL_285 (goodIn_c wL_286 (goodIn_c wL_50 (goodIn_c wL_287 (goodIn_c wL_288 (goodIn_c wL_289 (goodIn_c wL_290 (goodIn_c wL_45 (goodIn_c wL_291 (goodIn_c wL_292 (goodIn_c wL_293 goodIn_n))))))))))))))))))))))
theorem ggL_law_X5_spread : GoodIn wsL_law wsX5_spread := (goodIn_c wL_262 (goodIn_app (goodIn_app (goodIn_app gb_wsX5_spread_r1 gb_wsX5_spread_r2) bk_wsX50) bk_wsX10))
theorem gL_law_X5_spread : GoodIn wsL_law (wsV RL 47 RX5 yX5_spread wsX5_spread) := (goodIn_c wL_259 (goodIn_c wL_260 (goodIn_c wL_261 (goodIn_c wL_2 ggL_law_X5_spread))))
theorem ggL_law_X6_spread : GoodIn wsL_law wsX6_spread := (goodIn_c wL_297 (goodIn_app (goodIn_c wL_298 (goodIn_c wL_299 (goodIn_c wL_300 (goodIn_c wL_5 (goodIn_c wL_301 (goodIn_c wL_147 (goodIn_c wL_120 (goodIn_c wL_106 (goodIn_c wL_107 (goodIn_c wL_169 (goodIn_c wL_112 (goodIn_c wL_109 (goodIn_c wL_111 (goodIn_c wL_110 (goodIn_c wL_302 (goodIn_c wL_303 (goodIn_c wL_304 (goodIn_c wL_305 (goodIn_c wL_306 (goodIn_c wL_307 (goodIn_c wL_308 (goodIn_c wL_309 (goodIn_c wL_113 (goodIn_c wL_105 goodIn_n)))))))))))))))))))))))) bk_wsX60))
theorem gL_law_X6_spread : GoodIn wsL_law (wsV RL 51 RX6 yX6_spread wsX6_spread) := (goodIn_c wL_294 (goodIn_c wL_295 (goodIn_c wL_296 (goodIn_c wL_5 ggL_law_X6_spread))))
theorem gb_wsX5_of_r1 : GoodIn wsL_law wsX5_of_r1 := (goodIn_c wL_15 (goodIn_c wL_314 (goodIn_c wL_33 (goodIn_c wL_315 (goodIn_c wL_178 (goodIn_c wL_316 (goodIn_c wL_179 (goodIn_c wL_158 (goodIn_c wL_159 (goodIn_c wL_14 (goodIn_c wL_160 (goodIn_c wL_52 (goodIn_c wL_263 (goodIn_c wL_264 (goodIn_c wL_265 (goodIn_c wL_2 (goodIn_c wL_266 (goodIn_c wL_35 (goodIn_c wL_36 (goodIn_c wL_267 (goodIn_c wL_268 (goodIn_c wL_269 (goodIn_c wL_270 (goodIn_c wL_42 goodIn_n))))))))))))))))))))))))
theorem gb_wsX5_of_r2 : GoodIn wsL_law wsX5_of_r2 := (goodIn_c wL_43 (goodIn_c wL_271 (goodIn_c wL_272 (goodIn_c wL_273 (goodIn_c wL_274 (goodIn_c wL_275 (goodIn_c wL_276 (goodIn_c wL_277 (goodIn_c wL_278 (goodIn_c wL_53 (goodIn_c wL_48 (goodIn_c wL_47 (goodIn_c wL_49 (goodIn_c wL_279 (goodIn_c wL_280 (goodIn_c wL_281 (goodIn_c wL_282 (goodIn_c wL_283 (goodIn_c wL_284 (goodIn_c wL_285 (goodIn_c wL_286 (goodIn_c wL_50 (goodIn_c wL_287 (goodIn_c wL_288 goodIn_n))))))))))))))))))))))))
theorem gb_wsX5_of_r3 : GoodIn wsL_law wsX5_of_r3 := (goodIn_c wL_289 (goodIn_c wL_290 (goodIn_c wL_45 goodIn_n)))
theorem ggL_law_X5_of : GoodIn wsL_law wsX5_of := (goodIn_c wL_313 (goodIn_app (goodIn_app (goodIn_app gb_wsX5_of_r1 (goodIn_app gb_wsX5_of_r2 gb_wsX5_of_r3)) bk_wsX50) bk_wsX10))
theorem gL_law_X5_of : GoodIn wsL_law (wsV RL 52 RX5 yX5_of wsX5_of) := (goodIn_c wL_310 (goodIn_c wL_311 (goodIn_c wL_312 (goodIn_c wL_2 ggL_law_X5_of))))
theorem gb_wsX6_of_r1 : GoodIn wsL_law wsX6_of_r1 := (goodIn_c wL_120 (goodIn_c wL_106 (goodIn_c wL_107 (goodIn_c wL_105 (goodIn_c wL_170 (goodIn_c wL_171 (goodIn_c wL_172 (goodIn_c wL_5 (goodIn_c wL_173 (goodIn_c wL_147 (goodIn_c wL_298 (goodIn_c wL_299 (goodIn_c wL_300 (goodIn_c wL_301 (goodIn_c wL_169 (goodIn_c wL_112 (goodIn_c wL_109 (goodIn_c wL_111 (goodIn_c wL_110 (goodIn_c wL_302 (goodIn_c wL_303 (goodIn_c wL_304 (goodIn_c wL_305 (goodIn_c wL_306 goodIn_n))))))))))))))))))))))))
theorem gb_wsX6_of_r2 : GoodIn wsL_law wsX6_of_r2 := (goodIn_c wL_307 (goodIn_c wL_308 (goodIn_c wL_309 (goodIn_c wL_113 (goodIn_c wL_321 (goodIn_c wL_322 (goodIn_c wL_323 (goodIn_c wL_324 goodIn_n))))))))
theorem ggL_law_X6_of : GoodIn wsL_law wsX6_of := (goodIn_c wL_320 (goodIn_app (goodIn_app gb_wsX6_of_r1 gb_wsX6_of_r2) bk_wsX60))
theorem gL_law_X6_of : GoodIn wsL_law (wsV RL 55 RX6 yX6_of wsX6_of) := (goodIn_c wL_317 (goodIn_c wL_318 (goodIn_c wL_319 (goodIn_c wL_5 ggL_law_X6_of))))
theorem gb_wsX5_look_r1 : GoodIn wsL_law wsX5_look_r1 := (goodIn_c wL_15 (goodIn_c wL_329 (goodIn_c wL_213 (goodIn_c wL_214 (goodIn_c wL_330 (goodIn_c wL_188 (goodIn_c wL_331 (goodIn_c wL_194 (goodIn_c wL_195 (goodIn_c wL_14 (goodIn_c wL_196 (goodIn_c wL_53 (goodIn_c wL_291 (goodIn_c wL_292 (goodIn_c wL_2 (goodIn_c wL_293 (goodIn_c wL_263 (goodIn_c wL_264 (goodIn_c wL_265 (goodIn_c wL_266 (goodIn_c wL_35 (goodIn_c wL_33 (goodIn_c wL_36 (goodIn_c wL_267 goodIn_n))))))))))))))))))))))))
theorem gb_wsX5_look_r2 : GoodIn wsL_law wsX5_look_r2 := (goodIn_c wL_268 (goodIn_c wL_269 (goodIn_c wL_270 (goodIn_c wL_52 (goodIn_c wL_42 (goodIn_c wL_43 (goodIn_c wL_271 (goodIn_c wL_272 (goodIn_c wL_273 (goodIn_c wL_274 (goodIn_c wL_275 (goodIn_c wL_276 (goodIn_c wL_277 (goodIn_c wL_278 (goodIn_c wL_48 (goodIn_c wL_47 (goodIn_c wL_49 (goodIn_c wL_279 (goodIn_c wL_280 (goodIn_c wL_281 (goodIn_c wL_282 (goodIn_c wL_283 (goodIn_c wL_284 (goodIn_c wL_285 goodIn_n))))))))))))))))))))))))
theorem gb_wsX5_look_r3 : GoodIn wsL_law wsX5_look_r3 := (goodIn_c wL_286 (goodIn_c wL_50 (goodIn_c wL_287 (goodIn_c wL_288 (goodIn_c wL_289 (goodIn_c wL_290 (goodIn_c wL_45 (goodIn_c wL_332 (goodIn_c wL_333 (goodIn_c wL_334 (goodIn_c wL_335 (goodIn_c wL_315 (goodIn_c wL_178 (goodIn_c wL_336 (goodIn_c wL_337 (goodIn_c wL_338 (goodIn_c wL_339 (goodIn_c wL_340 goodIn_n))))))))))))))))))
theorem ggL_law_X5_look : GoodIn wsL_law wsX5_look := (goodIn_c wL_328 (goodIn_app (goodIn_app (goodIn_app gb_wsX5_look_r1 (goodIn_app gb_wsX5_look_r2 gb_wsX5_look_r3)) bk_wsX50) bk_wsX10))
theorem gL_law_X5_look : GoodIn wsL_law (wsV RL 56 RX5 yX5_look wsX5_look) := (goodIn_c wL_325 (goodIn_c wL_326 (goodIn_c wL_327 (goodIn_c wL_2 ggL_law_X5_look))))
theorem gb_wsX6_look_r1 : GoodIn wsL_law wsX6_look_r1 := (goodIn_c wL_108 (goodIn_c wL_109 (goodIn_c wL_110 (goodIn_c wL_111 (goodIn_c wL_112 (goodIn_c wL_106 (goodIn_c wL_205 (goodIn_c wL_206 (goodIn_c wL_207 (goodIn_c wL_5 (goodIn_c wL_208 (goodIn_c wL_169 (goodIn_c wL_298 (goodIn_c wL_299 (goodIn_c wL_300 (goodIn_c wL_301 (goodIn_c wL_147 (goodIn_c wL_120 (goodIn_c wL_107 (goodIn_c wL_302 (goodIn_c wL_303 (goodIn_c wL_304 (goodIn_c wL_305 (goodIn_c wL_306 goodIn_n))))))))))))))))))))))))
theorem gb_wsX6_look_r2 : GoodIn wsL_law wsX6_look_r2 := (goodIn_c wL_307 (goodIn_c wL_308 (goodIn_c wL_309 (goodIn_c wL_113 (goodIn_c wL_105 (goodIn_c wL_345 (goodIn_c wL_346 (goodIn_c wL_347 (goodIn_c wL_348 (goodIn_c wL_321 (goodIn_c wL_322 (goodIn_c wL_323 (goodIn_c wL_324 goodIn_n)))))))))))))
theorem ggL_law_X6_look : GoodIn wsL_law wsX6_look := (goodIn_c wL_344 (goodIn_app (goodIn_app gb_wsX6_look_r1 gb_wsX6_look_r2) bk_wsX60))
theorem gL_law_X6_look : GoodIn wsL_law (wsV RL 59 RX6 yX6_look wsX6_look) := (goodIn_c wL_341 (goodIn_c wL_342 (goodIn_c wL_343 (goodIn_c wL_5 ggL_law_X6_look))))
theorem gb_wsX5_cause_r1 : GoodIn wsL_law wsX5_cause_r1 := (goodIn_c wL_263 (goodIn_c wL_264 (goodIn_c wL_265 (goodIn_c wL_2 (goodIn_c wL_266 (goodIn_c wL_35 (goodIn_c wL_15 (goodIn_c wL_33 (goodIn_c wL_36 (goodIn_c wL_267 (goodIn_c wL_268 (goodIn_c wL_269 (goodIn_c wL_14 (goodIn_c wL_270 (goodIn_c wL_52 (goodIn_c wL_42 (goodIn_c wL_43 (goodIn_c wL_271 (goodIn_c wL_272 (goodIn_c wL_273 (goodIn_c wL_274 (goodIn_c wL_275 (goodIn_c wL_276 (goodIn_c wL_277 goodIn_n))))))))))))))))))))))))
theorem gb_wsX5_cause_r2 : GoodIn wsL_law wsX5_cause_r2 := (goodIn_c wL_278 (goodIn_c wL_53 (goodIn_c wL_48 (goodIn_c wL_47 (goodIn_c wL_49 (goodIn_c wL_279 (goodIn_c wL_280 (goodIn_c wL_281 (goodIn_c wL_282 (goodIn_c wL_283 (goodIn_c wL_284 (goodIn_c wL_285 (goodIn_c wL_286 (goodIn_c wL_50 (goodIn_c wL_287 (goodIn_c wL_288 (goodIn_c wL_289 (goodIn_c wL_290 (goodIn_c wL_45 (goodIn_c wL_353 (goodIn_c wL_354 (goodIn_c wL_355 (goodIn_c wL_356 (goodIn_c wL_314 goodIn_n))))))))))))))))))))))))
theorem gb_wsX5_cause_r3 : GoodIn wsL_law wsX5_cause_r3 := (goodIn_c wL_315 (goodIn_c wL_179 (goodIn_c wL_158 (goodIn_c wL_159 (goodIn_c wL_160 (goodIn_c wL_357 (goodIn_c wL_358 (goodIn_c wL_359 (goodIn_c wL_360 (goodIn_c wL_152 (goodIn_c wL_214 (goodIn_c wL_213 (goodIn_c wL_332 (goodIn_c wL_333 (goodIn_c wL_334 (goodIn_c wL_335 (goodIn_c wL_330 (goodIn_c wL_178 (goodIn_c wL_336 goodIn_n)))))))))))))))))))
theorem ggL_law_X5_cause : GoodIn wsL_law wsX5_cause := (goodIn_c wL_352 (goodIn_app (goodIn_app (goodIn_app gb_wsX5_cause_r1 (goodIn_app gb_wsX5_cause_r2 gb_wsX5_cause_r3)) bk_wsX50) bk_wsX10))
theorem gL_law_X5_cause : GoodIn wsL_law (wsV RL 60 RX5 yX5_cause wsX5_cause) := (goodIn_c wL_349 (goodIn_c wL_350 (goodIn_c wL_351 (goodIn_c wL_2 ggL_law_X5_cause))))
theorem gb_wsX6_cause_r1 : GoodIn wsL_law wsX6_cause_r1 := (goodIn_c wL_365 (goodIn_c wL_366 (goodIn_c wL_367 (goodIn_c wL_5 (goodIn_c wL_368 (goodIn_c wL_170 (goodIn_c wL_171 (goodIn_c wL_172 (goodIn_c wL_173 (goodIn_c wL_147 (goodIn_c wL_306 (goodIn_c wL_307 (goodIn_c wL_308 (goodIn_c wL_309 (goodIn_c wL_113 (goodIn_c wL_105 (goodIn_c wL_298 (goodIn_c wL_299 (goodIn_c wL_300 (goodIn_c wL_301 (goodIn_c wL_120 (goodIn_c wL_106 (goodIn_c wL_107 (goodIn_c wL_169 goodIn_n))))))))))))))))))))))))
theorem gb_wsX6_cause_r2 : GoodIn wsL_law wsX6_cause_r2 := (goodIn_c wL_112 (goodIn_c wL_109 (goodIn_c wL_111 (goodIn_c wL_110 (goodIn_c wL_302 (goodIn_c wL_303 (goodIn_c wL_304 (goodIn_c wL_305 (goodIn_c wL_321 (goodIn_c wL_322 (goodIn_c wL_323 (goodIn_c wL_324 (goodIn_c wL_369 (goodIn_c wL_370 (goodIn_c wL_371 (goodIn_c wL_372 (goodIn_c wL_345 (goodIn_c wL_346 (goodIn_c wL_347 (goodIn_c wL_348 goodIn_n))))))))))))))))))))
theorem ggL_law_X6_cause : GoodIn wsL_law wsX6_cause := (goodIn_c wL_364 (goodIn_app (goodIn_app gb_wsX6_cause_r1 gb_wsX6_cause_r2) bk_wsX60))
theorem gL_law_X6_cause : GoodIn wsL_law (wsV RL 64 RX6 yX6_cause wsX6_cause) := (goodIn_c wL_361 (goodIn_c wL_362 (goodIn_c wL_363 (goodIn_c wL_5 ggL_law_X6_cause))))
theorem gb_wsX5_way_r1 : GoodIn wsL_law wsX5_way_r1 := (goodIn_c wL_34 (goodIn_c wL_15 (goodIn_c wL_213 (goodIn_c wL_263 (goodIn_c wL_264 (goodIn_c wL_265 (goodIn_c wL_2 (goodIn_c wL_266 (goodIn_c wL_35 (goodIn_c wL_33 (goodIn_c wL_36 (goodIn_c wL_267 (goodIn_c wL_268 (goodIn_c wL_269 (goodIn_c wL_14 (goodIn_c wL_270 (goodIn_c wL_52 (goodIn_c wL_42 (goodIn_c wL_43 (goodIn_c wL_271 (goodIn_c wL_272 (goodIn_c wL_273 (goodIn_c wL_274 (goodIn_c wL_275 goodIn_n))))))))))))))))))))))))
theorem gb_wsX5_way_r2 : GoodIn wsL_law wsX5_way_r2 := (goodIn_c wL_276 (goodIn_c wL_277 (goodIn_c wL_278 (goodIn_c wL_53 (goodIn_c wL_48 (goodIn_c wL_47 (goodIn_c wL_49 (goodIn_c wL_279 (goodIn_c wL_280 (goodIn_c wL_281 (goodIn_c wL_282 (goodIn_c wL_283 (goodIn_c wL_284 (goodIn_c wL_285 (goodIn_c wL_286 (goodIn_c wL_50 (goodIn_c wL_287 (goodIn_c wL_288 (goodIn_c wL_289 (goodIn_c wL_290 (goodIn_c wL_45 (goodIn_c wL_353 (goodIn_c wL_354 (goodIn_c wL_355 goodIn_n))))))))))))))))))))))))
theorem gb_wsX5_way_r3 : GoodIn wsL_law wsX5_way_r3 := (goodIn_c wL_356 (goodIn_c wL_314 (goodIn_c wL_315 (goodIn_c wL_179 (goodIn_c wL_158 (goodIn_c wL_159 (goodIn_c wL_160 (goodIn_c wL_132 (goodIn_c wL_133 (goodIn_c wL_134 (goodIn_c wL_377 (goodIn_c wL_378 (goodIn_c wL_379 (goodIn_c wL_380 (goodIn_c wL_357 (goodIn_c wL_358 (goodIn_c wL_359 (goodIn_c wL_360 (goodIn_c wL_152 (goodIn_c wL_214 (goodIn_c wL_332 (goodIn_c wL_333 (goodIn_c wL_334 (goodIn_c wL_335 goodIn_n))))))))))))))))))))))))
theorem gb_wsX5_way_r4 : GoodIn wsL_law wsX5_way_r4 := (goodIn_c wL_330 (goodIn_c wL_178 (goodIn_c wL_336 goodIn_n)))
theorem ggL_law_X5_way : GoodIn wsL_law wsX5_way := (goodIn_c wL_376 (goodIn_app (goodIn_app (goodIn_app gb_wsX5_way_r1 (goodIn_app gb_wsX5_way_r2 (goodIn_app gb_wsX5_way_r3 gb_wsX5_way_r4))) bk_wsX50) bk_wsX10))
theorem gL_law_X5_way : GoodIn wsL_law (wsV RL 65 RX5 yX5_way wsX5_way) := (goodIn_c wL_373 (goodIn_c wL_374 (goodIn_c wL_375 (goodIn_c wL_2 ggL_law_X5_way))))
theorem gb_wsX6_way_r1 : GoodIn wsL_law wsX6_way_r1 := (goodIn_c wL_121 (goodIn_c wL_109 (goodIn_c wL_365 (goodIn_c wL_366 (goodIn_c wL_367 (goodIn_c wL_5 (goodIn_c wL_368 (goodIn_c wL_170 (goodIn_c wL_171 (goodIn_c wL_172 (goodIn_c wL_173 (goodIn_c wL_147 (goodIn_c wL_306 (goodIn_c wL_307 (goodIn_c wL_308 (goodIn_c wL_309 (goodIn_c wL_113 (goodIn_c wL_105 (goodIn_c wL_298 (goodIn_c wL_299 (goodIn_c wL_300 (goodIn_c wL_301 (goodIn_c wL_120 (goodIn_c wL_106 goodIn_n))))))))))))))))))))))))
theorem gb_wsX6_way_r2 : GoodIn wsL_law wsX6_way_r2 := (goodIn_c wL_107 (goodIn_c wL_169 (goodIn_c wL_112 (goodIn_c wL_111 (goodIn_c wL_110 (goodIn_c wL_302 (goodIn_c wL_303 (goodIn_c wL_304 (goodIn_c wL_305 (goodIn_c wL_321 (goodIn_c wL_322 (goodIn_c wL_323 (goodIn_c wL_324 (goodIn_c wL_369 (goodIn_c wL_370 (goodIn_c wL_371 (goodIn_c wL_372 (goodIn_c wL_345 (goodIn_c wL_346 (goodIn_c wL_347 (goodIn_c wL_348 goodIn_n)))))))))))))))))))))
theorem ggL_law_X6_way : GoodIn wsL_law wsX6_way := (goodIn_c wL_384 (goodIn_app (goodIn_app gb_wsX6_way_r1 gb_wsX6_way_r2) bk_wsX60))
theorem gL_law_X6_way : GoodIn wsL_law (wsV RL 68 RX6 yX6_way wsX6_way) := (goodIn_c wL_381 (goodIn_c wL_382 (goodIn_c wL_383 (goodIn_c wL_5 ggL_law_X6_way))))
theorem gb_wsX5_ring_r1 : GoodIn wsL_law wsX5_ring_r1 := (goodIn_c wL_37 (goodIn_c wL_23 (goodIn_c wL_389 (goodIn_c wL_390 (goodIn_c wL_263 (goodIn_c wL_264 (goodIn_c wL_265 (goodIn_c wL_2 (goodIn_c wL_266 (goodIn_c wL_35 (goodIn_c wL_15 (goodIn_c wL_33 (goodIn_c wL_36 (goodIn_c wL_267 (goodIn_c wL_268 (goodIn_c wL_269 (goodIn_c wL_14 (goodIn_c wL_270 (goodIn_c wL_52 (goodIn_c wL_42 (goodIn_c wL_43 (goodIn_c wL_271 (goodIn_c wL_272 (goodIn_c wL_273 goodIn_n))))))))))))))))))))))))
theorem gb_wsX5_ring_r2 : GoodIn wsL_law wsX5_ring_r2 := (goodIn_c wL_274 (goodIn_c wL_275 (goodIn_c wL_276 (goodIn_c wL_277 (goodIn_c wL_278 (goodIn_c wL_53 (goodIn_c wL_48 (goodIn_c wL_47 (goodIn_c wL_49 (goodIn_c wL_279 (goodIn_c wL_280 (goodIn_c wL_281 (goodIn_c wL_282 (goodIn_c wL_283 (goodIn_c wL_284 (goodIn_c wL_285 (goodIn_c wL_286 (goodIn_c wL_50 (goodIn_c wL_287 (goodIn_c wL_288 (goodIn_c wL_289 (goodIn_c wL_290 (goodIn_c wL_45 (goodIn_c wL_391 goodIn_n))))))))))))))))))))))))
theorem gb_wsX5_ring_r3 : GoodIn wsL_law wsX5_ring_r3 := (goodIn_c wL_392 (goodIn_c wL_393 (goodIn_c wL_22 (goodIn_c wL_394 (goodIn_c wL_76 (goodIn_c wL_395 (goodIn_c wL_396 (goodIn_c wL_397 (goodIn_c wL_398 (goodIn_c wL_74 (goodIn_c wL_77 (goodIn_c wL_399 (goodIn_c wL_73 (goodIn_c wL_400 (goodIn_c wL_401 (goodIn_c wL_402 (goodIn_c wL_403 (goodIn_c wL_404 (goodIn_c wL_405 (goodIn_c wL_72 (goodIn_c wL_406 (goodIn_c wL_407 (goodIn_c wL_408 (goodIn_c wL_409 goodIn_n))))))))))))))))))))))))
theorem gb_wsX5_ring_r4 : GoodIn wsL_law wsX5_ring_r4 := (goodIn_c wL_71 (goodIn_c wL_410 (goodIn_c wL_411 (goodIn_c wL_412 (goodIn_c wL_413 (goodIn_c wL_414 (goodIn_c wL_378 (goodIn_c wL_379 (goodIn_c wL_380 (goodIn_c wL_415 (goodIn_c wL_416 (goodIn_c wL_417 (goodIn_c wL_418 (goodIn_c wL_419 (goodIn_c wL_420 (goodIn_c wL_421 (goodIn_c wL_422 (goodIn_c wL_423 (goodIn_c wL_424 (goodIn_c wL_425 (goodIn_c wL_426 (goodIn_c wL_427 (goodIn_c wL_428 (goodIn_c wL_429 goodIn_n))))))))))))))))))))))))
theorem gb_wsX5_ring_r5 : GoodIn wsL_law wsX5_ring_r5 := (goodIn_c wL_430 (goodIn_c wL_431 (goodIn_c wL_432 (goodIn_c wL_433 (goodIn_c wL_75 (goodIn_c wL_434 (goodIn_c wL_435 (goodIn_c wL_436 (goodIn_c wL_437 (goodIn_c wL_132 (goodIn_c wL_133 (goodIn_c wL_134 goodIn_n))))))))))))
theorem ggL_law_X5_ring : GoodIn wsL_law wsX5_ring := (goodIn_c wL_388 (goodIn_app (goodIn_app (goodIn_app (goodIn_app gb_wsX5_ring_r1 (goodIn_app gb_wsX5_ring_r2 (goodIn_app gb_wsX5_ring_r3 (goodIn_app gb_wsX5_ring_r4 gb_wsX5_ring_r5)))) bk_wsX50) bk_wsX20) bk_wsX10))
theorem gL_law_X5_ring : GoodIn wsL_law (wsV RL 69 RX5 yX5_ring wsX5_ring) := (goodIn_c wL_385 (goodIn_c wL_386 (goodIn_c wL_387 (goodIn_c wL_2 ggL_law_X5_ring))))
theorem gb_wsX6_ring_r1 : GoodIn wsL_law wsX6_ring_r1 := (goodIn_c wL_442 (goodIn_c wL_124 (goodIn_c wL_298 (goodIn_c wL_299 (goodIn_c wL_300 (goodIn_c wL_5 (goodIn_c wL_301 (goodIn_c wL_147 (goodIn_c wL_120 (goodIn_c wL_106 (goodIn_c wL_107 (goodIn_c wL_169 (goodIn_c wL_112 (goodIn_c wL_109 (goodIn_c wL_111 (goodIn_c wL_110 (goodIn_c wL_302 (goodIn_c wL_303 (goodIn_c wL_304 (goodIn_c wL_305 (goodIn_c wL_306 (goodIn_c wL_307 (goodIn_c wL_308 (goodIn_c wL_309 goodIn_n))))))))))))))))))))))))
theorem gb_wsX6_ring_r2 : GoodIn wsL_law wsX6_ring_r2 := (goodIn_c wL_113 (goodIn_c wL_105 (goodIn_c wL_443 (goodIn_c wL_444 (goodIn_c wL_445 (goodIn_c wL_446 (goodIn_c wL_123 (goodIn_c wL_122 (goodIn_c wL_447 (goodIn_c wL_448 (goodIn_c wL_449 (goodIn_c wL_450 (goodIn_c wL_451 (goodIn_c wL_452 (goodIn_c wL_453 (goodIn_c wL_454 (goodIn_c wL_455 (goodIn_c wL_456 (goodIn_c wL_457 (goodIn_c wL_458 goodIn_n))))))))))))))))))))
theorem ggL_law_X6_ring : GoodIn wsL_law wsX6_ring := (goodIn_c wL_441 (goodIn_app (goodIn_app gb_wsX6_ring_r1 gb_wsX6_ring_r2) bk_wsX60))
theorem gL_law_X6_ring : GoodIn wsL_law (wsV RL 72 RX6 yX6_ring wsX6_ring) := (goodIn_c wL_438 (goodIn_c wL_439 (goodIn_c wL_440 (goodIn_c wL_5 ggL_law_X6_ring))))
theorem gb_wsX5_told_r1 : GoodIn wsL_law wsX5_told_r1 := (goodIn_c wL_19 (goodIn_c wL_33 (goodIn_c wL_463 (goodIn_c wL_464 (goodIn_c wL_465 (goodIn_c wL_466 (goodIn_c wL_18 (goodIn_c wL_467 (goodIn_c wL_64 (goodIn_c wL_263 (goodIn_c wL_264 (goodIn_c wL_265 (goodIn_c wL_2 (goodIn_c wL_266 (goodIn_c wL_35 (goodIn_c wL_15 (goodIn_c wL_36 (goodIn_c wL_267 (goodIn_c wL_268 (goodIn_c wL_269 (goodIn_c wL_14 (goodIn_c wL_270 (goodIn_c wL_52 (goodIn_c wL_42 goodIn_n))))))))))))))))))))))))
theorem gb_wsX5_told_r2 : GoodIn wsL_law wsX5_told_r2 := (goodIn_c wL_43 (goodIn_c wL_271 (goodIn_c wL_272 (goodIn_c wL_273 (goodIn_c wL_274 (goodIn_c wL_275 (goodIn_c wL_276 (goodIn_c wL_277 (goodIn_c wL_278 (goodIn_c wL_53 (goodIn_c wL_48 (goodIn_c wL_47 (goodIn_c wL_49 (goodIn_c wL_279 (goodIn_c wL_280 (goodIn_c wL_281 (goodIn_c wL_282 (goodIn_c wL_283 (goodIn_c wL_284 (goodIn_c wL_285 (goodIn_c wL_286 (goodIn_c wL_50 (goodIn_c wL_287 (goodIn_c wL_288 goodIn_n))))))))))))))))))))))))
theorem gb_wsX5_told_r3 : GoodIn wsL_law wsX5_told_r3 := (goodIn_c wL_289 (goodIn_c wL_290 (goodIn_c wL_45 (goodIn_c wL_468 (goodIn_c wL_469 (goodIn_c wL_470 (goodIn_c wL_471 (goodIn_c wL_63 (goodIn_c wL_62 (goodIn_c wL_65 (goodIn_c wL_472 (goodIn_c wL_473 (goodIn_c wL_474 (goodIn_c wL_475 (goodIn_c wL_476 (goodIn_c wL_477 (goodIn_c wL_59 (goodIn_c wL_60 (goodIn_c wL_61 (goodIn_c wL_478 (goodIn_c wL_479 (goodIn_c wL_480 (goodIn_c wL_481 (goodIn_c wL_247 goodIn_n))))))))))))))))))))))))
theorem gb_wsX5_told_r4 : GoodIn wsL_law wsX5_told_r4 := (goodIn_c wL_248 (goodIn_c wL_482 (goodIn_c wL_483 (goodIn_c wL_484 (goodIn_c wL_291 (goodIn_c wL_292 (goodIn_c wL_293 goodIn_n)))))))
theorem ggL_law_X5_told : GoodIn wsL_law wsX5_told := (goodIn_c wL_462 (goodIn_app (goodIn_app (goodIn_app (goodIn_app gb_wsX5_told_r1 (goodIn_app gb_wsX5_told_r2 (goodIn_app gb_wsX5_told_r3 gb_wsX5_told_r4))) bk_wsX50) bk_wsX40) bk_wsX10))
theorem gL_law_X5_told : GoodIn wsL_law (wsV RL 73 RX5 yX5_told wsX5_told) := (goodIn_c wL_459 (goodIn_c wL_460 (goodIn_c wL_461 (goodIn_c wL_2 ggL_law_X5_told))))
theorem gb_wsX6_told_r1 : GoodIn wsL_law wsX6_told_r1 := (goodIn_c wL_258 (goodIn_c wL_114 (goodIn_c wL_298 (goodIn_c wL_299 (goodIn_c wL_300 (goodIn_c wL_5 (goodIn_c wL_301 (goodIn_c wL_147 (goodIn_c wL_120 (goodIn_c wL_106 (goodIn_c wL_107 (goodIn_c wL_169 (goodIn_c wL_112 (goodIn_c wL_109 (goodIn_c wL_111 (goodIn_c wL_110 (goodIn_c wL_302 (goodIn_c wL_303 (goodIn_c wL_304 (goodIn_c wL_305 (goodIn_c wL_306 (goodIn_c wL_307 (goodIn_c wL_308 (goodIn_c wL_309 goodIn_n))))))))))))))))))))))))
theorem gb_wsX6_told_r2 : GoodIn wsL_law wsX6_told_r2 := (goodIn_c wL_113 (goodIn_c wL_105 (goodIn_c wL_489 (goodIn_c wL_490 (goodIn_c wL_491 (goodIn_c wL_492 (goodIn_c wL_119 (goodIn_c wL_118 (goodIn_c wL_493 (goodIn_c wL_494 (goodIn_c wL_495 (goodIn_c wL_496 (goodIn_c wL_115 (goodIn_c wL_116 (goodIn_c wL_117 (goodIn_c wL_497 (goodIn_c wL_498 (goodIn_c wL_499 (goodIn_c wL_500 (goodIn_c wL_321 (goodIn_c wL_322 (goodIn_c wL_323 (goodIn_c wL_324 goodIn_n)))))))))))))))))))))))
theorem ggL_law_X6_told : GoodIn wsL_law wsX6_told := (goodIn_c wL_488 (goodIn_app (goodIn_app gb_wsX6_told_r1 gb_wsX6_told_r2) bk_wsX60))
theorem gL_law_X6_told : GoodIn wsL_law (wsV RL 76 RX6 yX6_told wsX6_told) := (goodIn_c wL_485 (goodIn_c wL_486 (goodIn_c wL_487 (goodIn_c wL_5 ggL_law_X6_told))))
theorem gb_wsX5_cost_r1 : GoodIn wsL_law wsX5_cost_r1 := (goodIn_c wL_19 (goodIn_c wL_33 (goodIn_c wL_505 (goodIn_c wL_263 (goodIn_c wL_264 (goodIn_c wL_265 (goodIn_c wL_2 (goodIn_c wL_266 (goodIn_c wL_35 (goodIn_c wL_15 (goodIn_c wL_36 (goodIn_c wL_267 (goodIn_c wL_268 (goodIn_c wL_269 (goodIn_c wL_14 (goodIn_c wL_270 (goodIn_c wL_52 (goodIn_c wL_42 (goodIn_c wL_43 (goodIn_c wL_271 (goodIn_c wL_272 (goodIn_c wL_273 (goodIn_c wL_274 (goodIn_c wL_275 goodIn_n))))))))))))))))))))))))
theorem gb_wsX5_cost_r2 : GoodIn wsL_law wsX5_cost_r2 := (goodIn_c wL_276 (goodIn_c wL_277 (goodIn_c wL_278 (goodIn_c wL_53 (goodIn_c wL_48 (goodIn_c wL_47 (goodIn_c wL_49 (goodIn_c wL_279 (goodIn_c wL_280 (goodIn_c wL_281 (goodIn_c wL_282 (goodIn_c wL_283 (goodIn_c wL_284 (goodIn_c wL_285 (goodIn_c wL_286 (goodIn_c wL_50 (goodIn_c wL_287 (goodIn_c wL_288 (goodIn_c wL_289 (goodIn_c wL_290 (goodIn_c wL_45 (goodIn_c wL_506 (goodIn_c wL_507 (goodIn_c wL_508 goodIn_n))))))))))))))))))))))))
theorem gb_wsX5_cost_r3 : GoodIn wsL_law wsX5_cost_r3 := (goodIn_c wL_18 (goodIn_c wL_509 (goodIn_c wL_64 (goodIn_c wL_58 (goodIn_c wL_510 (goodIn_c wL_469 (goodIn_c wL_470 (goodIn_c wL_471 (goodIn_c wL_63 (goodIn_c wL_62 (goodIn_c wL_65 (goodIn_c wL_472 (goodIn_c wL_473 (goodIn_c wL_474 (goodIn_c wL_475 (goodIn_c wL_476 (goodIn_c wL_477 (goodIn_c wL_59 (goodIn_c wL_60 (goodIn_c wL_61 (goodIn_c wL_478 (goodIn_c wL_479 (goodIn_c wL_480 (goodIn_c wL_481 goodIn_n))))))))))))))))))))))))
theorem gb_wsX5_cost_r4 : GoodIn wsL_law wsX5_cost_r4 := (goodIn_c wL_247 (goodIn_c wL_248 (goodIn_c wL_482 (goodIn_c wL_483 goodIn_n))))
theorem ggL_law_X5_cost : GoodIn wsL_law wsX5_cost := (goodIn_c wL_504 (goodIn_app (goodIn_app (goodIn_app (goodIn_app gb_wsX5_cost_r1 (goodIn_app gb_wsX5_cost_r2 (goodIn_app gb_wsX5_cost_r3 gb_wsX5_cost_r4))) bk_wsX50) bk_wsX10) bk_wsX40))
theorem gL_law_X5_cost : GoodIn wsL_law (wsV RL 77 RX5 yX5_cost wsX5_cost) := (goodIn_c wL_501 (goodIn_c wL_502 (goodIn_c wL_503 (goodIn_c wL_2 ggL_law_X5_cost))))
theorem gb_wsX6_cost_r1 : GoodIn wsL_law wsX6_cost_r1 := (goodIn_c wL_515 (goodIn_c wL_298 (goodIn_c wL_299 (goodIn_c wL_300 (goodIn_c wL_5 (goodIn_c wL_301 (goodIn_c wL_147 (goodIn_c wL_120 (goodIn_c wL_106 (goodIn_c wL_107 (goodIn_c wL_169 (goodIn_c wL_112 (goodIn_c wL_109 (goodIn_c wL_111 (goodIn_c wL_110 (goodIn_c wL_302 (goodIn_c wL_303 (goodIn_c wL_304 (goodIn_c wL_305 (goodIn_c wL_306 (goodIn_c wL_307 (goodIn_c wL_308 (goodIn_c wL_309 (goodIn_c wL_113 goodIn_n))))))))))))))))))))))))
theorem gb_wsX6_cost_r2 : GoodIn wsL_law wsX6_cost_r2 := (goodIn_c wL_105 (goodIn_c wL_516 (goodIn_c wL_517 (goodIn_c wL_518 (goodIn_c wL_519 (goodIn_c wL_258 (goodIn_c wL_114 (goodIn_c wL_489 (goodIn_c wL_490 (goodIn_c wL_491 (goodIn_c wL_492 (goodIn_c wL_119 (goodIn_c wL_118 (goodIn_c wL_493 (goodIn_c wL_494 (goodIn_c wL_495 (goodIn_c wL_496 (goodIn_c wL_115 (goodIn_c wL_116 (goodIn_c wL_117 (goodIn_c wL_497 (goodIn_c wL_498 (goodIn_c wL_499 (goodIn_c wL_500 goodIn_n))))))))))))))))))))))))
theorem gb_wsX6_cost_r3 : GoodIn wsL_law wsX6_cost_r3 := (goodIn_c wL_321 (goodIn_c wL_322 (goodIn_c wL_323 (goodIn_c wL_324 goodIn_n))))
theorem ggL_law_X6_cost : GoodIn wsL_law wsX6_cost := (goodIn_c wL_514 (goodIn_app (goodIn_app gb_wsX6_cost_r1 (goodIn_app gb_wsX6_cost_r2 gb_wsX6_cost_r3)) bk_wsX60))
theorem gL_law_X6_cost : GoodIn wsL_law (wsV RL 81 RX6 yX6_cost wsX6_cost) := (goodIn_c wL_511 (goodIn_c wL_512 (goodIn_c wL_513 (goodIn_c wL_5 ggL_law_X6_cost))))
theorem gb_wsX5_choose_r1 : GoodIn wsL_law wsX5_choose_r1 := (goodIn_c wL_27 (goodIn_c wL_524 (goodIn_c wL_525 (goodIn_c wL_526 (goodIn_c wL_26 (goodIn_c wL_527 (goodIn_c wL_88 (goodIn_c wL_89 (goodIn_c wL_87 (goodIn_c wL_83 (goodIn_c wL_91 (goodIn_c wL_528 (goodIn_c wL_82 (goodIn_c wL_86 (goodIn_c wL_84 (goodIn_c wL_529 (goodIn_c wL_530 (goodIn_c wL_531 (goodIn_c wL_532 (goodIn_c wL_533 (goodIn_c wL_534 (goodIn_c wL_535 (goodIn_c wL_288 (goodIn_c wL_289 goodIn_n))))))))))))))))))))))))
theorem gb_wsX5_choose_r2 : GoodIn wsL_law wsX5_choose_r2 := (goodIn_c wL_14 (goodIn_c wL_290 (goodIn_c wL_45 (goodIn_c wL_47 (goodIn_c wL_48 (goodIn_c wL_536 (goodIn_c wL_268 (goodIn_c wL_269 (goodIn_c wL_270 (goodIn_c wL_52 (goodIn_c wL_42 (goodIn_c wL_43 (goodIn_c wL_537 (goodIn_c wL_272 (goodIn_c wL_273 (goodIn_c wL_274 (goodIn_c wL_275 (goodIn_c wL_276 (goodIn_c wL_277 (goodIn_c wL_278 (goodIn_c wL_53 (goodIn_c wL_49 (goodIn_c wL_279 (goodIn_c wL_280 goodIn_n))))))))))))))))))))))))
theorem gb_wsX5_choose_r3 : GoodIn wsL_law wsX5_choose_r3 := (goodIn_c wL_281 (goodIn_c wL_282 (goodIn_c wL_283 (goodIn_c wL_284 (goodIn_c wL_285 (goodIn_c wL_286 (goodIn_c wL_50 (goodIn_c wL_287 (goodIn_c wL_538 (goodIn_c wL_539 (goodIn_c wL_540 (goodIn_c wL_92 (goodIn_c wL_541 (goodIn_c wL_542 (goodIn_c wL_543 (goodIn_c wL_544 (goodIn_c wL_545 (goodIn_c wL_546 (goodIn_c wL_507 (goodIn_c wL_508 (goodIn_c wL_18 (goodIn_c wL_509 (goodIn_c wL_64 (goodIn_c wL_58 goodIn_n))))))))))))))))))))))))
theorem gb_wsX5_choose_r4 : GoodIn wsL_law wsX5_choose_r4 := (goodIn_c wL_510 (goodIn_c wL_469 (goodIn_c wL_470 (goodIn_c wL_471 (goodIn_c wL_63 (goodIn_c wL_62 (goodIn_c wL_65 (goodIn_c wL_472 (goodIn_c wL_473 (goodIn_c wL_474 (goodIn_c wL_475 (goodIn_c wL_476 (goodIn_c wL_477 (goodIn_c wL_59 (goodIn_c wL_60 (goodIn_c wL_61 (goodIn_c wL_478 (goodIn_c wL_479 (goodIn_c wL_480 (goodIn_c wL_481 (goodIn_c wL_247 (goodIn_c wL_248 (goodIn_c wL_482 (goodIn_c wL_483 goodIn_n))))))))))))))))))))))))
theorem gb_wsX5_choose_r5 : GoodIn wsL_law wsX5_choose_r5 := (goodIn_c wL_547 (goodIn_c wL_548 (goodIn_c wL_549 (goodIn_c wL_550 (goodIn_c wL_90 (goodIn_c wL_551 (goodIn_c wL_135 (goodIn_c wL_136 (goodIn_c wL_137 (goodIn_c wL_2 (goodIn_c wL_138 (goodIn_c wL_35 (goodIn_c wL_37 goodIn_n)))))))))))))
theorem ggL_law_X5_choose : GoodIn wsL_law wsX5_choose := (goodIn_c wL_523 (goodIn_app (goodIn_app (goodIn_app (goodIn_app (goodIn_app gb_wsX5_choose_r1 (goodIn_app gb_wsX5_choose_r2 (goodIn_app gb_wsX5_choose_r3 (goodIn_app gb_wsX5_choose_r4 gb_wsX5_choose_r5)))) bk_wsX50) bk_wsX00) bk_wsX10) bk_wsX40))
theorem gL_law_X5_choose : GoodIn wsL_law (wsV RL 82 RX5 yX5_choose wsX5_choose) := (goodIn_c wL_520 (goodIn_c wL_521 (goodIn_c wL_522 (goodIn_c wL_2 ggL_law_X5_choose))))
theorem gb_wsX6_choose_r1 : GoodIn wsL_law wsX6_choose_r1 := (goodIn_c wL_169 (goodIn_c wL_108 (goodIn_c wL_125 (goodIn_c wL_515 (goodIn_c wL_126 (goodIn_c wL_112 (goodIn_c wL_302 (goodIn_c wL_303 (goodIn_c wL_304 (goodIn_c wL_5 (goodIn_c wL_305 (goodIn_c wL_109 (goodIn_c wL_110 (goodIn_c wL_306 (goodIn_c wL_307 (goodIn_c wL_308 (goodIn_c wL_309 (goodIn_c wL_113 (goodIn_c wL_105 (goodIn_c wL_556 (goodIn_c wL_557 (goodIn_c wL_558 (goodIn_c wL_559 (goodIn_c wL_298 goodIn_n))))))))))))))))))))))))
theorem gb_wsX6_choose_r2 : GoodIn wsL_law wsX6_choose_r2 := (goodIn_c wL_299 (goodIn_c wL_300 (goodIn_c wL_301 (goodIn_c wL_147 (goodIn_c wL_120 (goodIn_c wL_106 (goodIn_c wL_107 (goodIn_c wL_111 (goodIn_c wL_516 (goodIn_c wL_517 (goodIn_c wL_518 (goodIn_c wL_519 (goodIn_c wL_258 (goodIn_c wL_114 (goodIn_c wL_489 (goodIn_c wL_490 (goodIn_c wL_491 (goodIn_c wL_492 (goodIn_c wL_119 (goodIn_c wL_118 (goodIn_c wL_493 (goodIn_c wL_494 (goodIn_c wL_495 (goodIn_c wL_496 goodIn_n))))))))))))))))))))))))
theorem gb_wsX6_choose_r3 : GoodIn wsL_law wsX6_choose_r3 := (goodIn_c wL_115 (goodIn_c wL_116 (goodIn_c wL_117 (goodIn_c wL_497 (goodIn_c wL_498 (goodIn_c wL_499 (goodIn_c wL_500 (goodIn_c wL_321 (goodIn_c wL_322 (goodIn_c wL_323 (goodIn_c wL_324 (goodIn_c wL_560 (goodIn_c wL_561 (goodIn_c wL_562 goodIn_n))))))))))))))
theorem ggL_law_X6_choose : GoodIn wsL_law wsX6_choose := (goodIn_c wL_555 (goodIn_app (goodIn_app gb_wsX6_choose_r1 (goodIn_app gb_wsX6_choose_r2 gb_wsX6_choose_r3)) bk_wsX60))
theorem gL_law_X6_choose : GoodIn wsL_law (wsV RL 85 RX6 yX6_choose wsX6_choose) := (goodIn_c wL_552 (goodIn_c wL_553 (goodIn_c wL_554 (goodIn_c wL_5 ggL_law_X6_choose))))
theorem gb_wsX5_rule_r1 : GoodIn wsL_law wsX5_rule_r1 := (goodIn_c wL_31 (goodIn_c wL_15 (goodIn_c wL_132 (goodIn_c wL_133 (goodIn_c wL_2 (goodIn_c wL_134 (goodIn_c wL_567 (goodIn_c wL_568 (goodIn_c wL_569 (goodIn_c wL_30 (goodIn_c wL_570 (goodIn_c wL_100 (goodIn_c wL_98 (goodIn_c wL_97 (goodIn_c wL_571 (goodIn_c wL_572 (goodIn_c wL_573 (goodIn_c wL_574 (goodIn_c wL_575 (goodIn_c wL_576 (goodIn_c wL_577 (goodIn_c wL_578 (goodIn_c wL_288 (goodIn_c wL_289 goodIn_n))))))))))))))))))))))))
theorem gb_wsX5_rule_r2 : GoodIn wsL_law wsX5_rule_r2 := (goodIn_c wL_14 (goodIn_c wL_290 (goodIn_c wL_45 (goodIn_c wL_47 (goodIn_c wL_48 (goodIn_c wL_579 (goodIn_c wL_580 (goodIn_c wL_581 (goodIn_c wL_582 (goodIn_c wL_583 (goodIn_c wL_584 (goodIn_c wL_585 (goodIn_c wL_268 (goodIn_c wL_269 (goodIn_c wL_270 (goodIn_c wL_52 (goodIn_c wL_42 (goodIn_c wL_43 (goodIn_c wL_586 (goodIn_c wL_272 (goodIn_c wL_273 (goodIn_c wL_274 (goodIn_c wL_275 (goodIn_c wL_276 goodIn_n))))))))))))))))))))))))
theorem gb_wsX5_rule_r3 : GoodIn wsL_law wsX5_rule_r3 := (goodIn_c wL_277 (goodIn_c wL_278 (goodIn_c wL_53 (goodIn_c wL_49 (goodIn_c wL_279 (goodIn_c wL_280 (goodIn_c wL_281 (goodIn_c wL_282 (goodIn_c wL_283 (goodIn_c wL_284 (goodIn_c wL_285 (goodIn_c wL_286 (goodIn_c wL_50 (goodIn_c wL_287 (goodIn_c wL_587 (goodIn_c wL_588 (goodIn_c wL_589 (goodIn_c wL_590 (goodIn_c wL_591 (goodIn_c wL_592 (goodIn_c wL_99 (goodIn_c wL_593 (goodIn_c wL_594 (goodIn_c wL_543 goodIn_n))))))))))))))))))))))))
theorem gb_wsX5_rule_r4 : GoodIn wsL_law wsX5_rule_r4 := (goodIn_c wL_544 (goodIn_c wL_545 (goodIn_c wL_135 (goodIn_c wL_136 (goodIn_c wL_137 (goodIn_c wL_138 (goodIn_c wL_35 (goodIn_c wL_37 (goodIn_c wL_595 (goodIn_c wL_596 (goodIn_c wL_597 (goodIn_c wL_598 (goodIn_c wL_46 goodIn_n)))))))))))))
theorem ggL_law_X5_rule : GoodIn wsL_law wsX5_rule := (goodIn_c wL_566 (goodIn_app (goodIn_app (goodIn_app (goodIn_app gb_wsX5_rule_r1 (goodIn_app gb_wsX5_rule_r2 (goodIn_app gb_wsX5_rule_r3 gb_wsX5_rule_r4))) bk_wsX50) bk_wsX30) bk_wsX10))
theorem gL_law_X5_rule : GoodIn wsL_law (wsV RL 86 RX5 yX5_rule wsX5_rule) := (goodIn_c wL_563 (goodIn_c wL_564 (goodIn_c wL_565 (goodIn_c wL_2 ggL_law_X5_rule))))
theorem gb_wsX6_rule_r1 : GoodIn wsL_law wsX6_rule_r1 := (goodIn_c wL_169 (goodIn_c wL_108 (goodIn_c wL_112 (goodIn_c wL_106 (goodIn_c wL_110 (goodIn_c wL_125 (goodIn_c wL_120 (goodIn_c wL_109 (goodIn_c wL_111 (goodIn_c wL_302 (goodIn_c wL_303 (goodIn_c wL_304 (goodIn_c wL_5 (goodIn_c wL_305 (goodIn_c wL_306 (goodIn_c wL_307 (goodIn_c wL_308 (goodIn_c wL_309 (goodIn_c wL_113 (goodIn_c wL_105 (goodIn_c wL_298 (goodIn_c wL_299 (goodIn_c wL_300 (goodIn_c wL_301 goodIn_n))))))))))))))))))))))))
theorem gb_wsX6_rule_r2 : GoodIn wsL_law wsX6_rule_r2 := (goodIn_c wL_147 (goodIn_c wL_107 goodIn_n))
theorem ggL_law_X6_rule : GoodIn wsL_law wsX6_rule := (goodIn_c wL_602 (goodIn_app (goodIn_app gb_wsX6_rule_r1 gb_wsX6_rule_r2) bk_wsX60))
theorem gL_law_X6_rule : GoodIn wsL_law (wsV RL 89 RX6 yX6_rule wsX6_rule) := (goodIn_c wL_599 (goodIn_c wL_600 (goodIn_c wL_601 (goodIn_c wL_5 ggL_law_X6_rule))))
theorem gb_wsX5_recover_r1 : GoodIn wsL_law wsX5_recover_r1 := (goodIn_c wL_15 (goodIn_c wL_131 (goodIn_c wL_33 (goodIn_c wL_607 (goodIn_c wL_608 (goodIn_c wL_609 (goodIn_c wL_610 (goodIn_c wL_263 (goodIn_c wL_264 (goodIn_c wL_265 (goodIn_c wL_2 (goodIn_c wL_266 (goodIn_c wL_35 (goodIn_c wL_36 (goodIn_c wL_267 (goodIn_c wL_268 (goodIn_c wL_269 (goodIn_c wL_14 (goodIn_c wL_270 (goodIn_c wL_52 (goodIn_c wL_42 (goodIn_c wL_43 (goodIn_c wL_271 (goodIn_c wL_272 goodIn_n))))))))))))))))))))))))
theorem gb_wsX5_recover_r2 : GoodIn wsL_law wsX5_recover_r2 := (goodIn_c wL_273 (goodIn_c wL_274 (goodIn_c wL_275 (goodIn_c wL_276 (goodIn_c wL_277 (goodIn_c wL_278 (goodIn_c wL_53 (goodIn_c wL_48 (goodIn_c wL_47 (goodIn_c wL_49 (goodIn_c wL_279 (goodIn_c wL_280 (goodIn_c wL_281 (goodIn_c wL_282 (goodIn_c wL_283 (goodIn_c wL_284 (goodIn_c wL_285 (goodIn_c wL_286 (goodIn_c wL_50 (goodIn_c wL_287 (goodIn_c wL_288 (goodIn_c wL_289 (goodIn_c wL_290 (goodIn_c wL_45 goodIn_n))))))))))))))))))))))))
theorem gb_wsX5_recover_r3 : GoodIn wsL_law wsX5_recover_r3 := (goodIn_c wL_353 (goodIn_c wL_354 (goodIn_c wL_355 (goodIn_c wL_356 (goodIn_c wL_314 (goodIn_c wL_315 (goodIn_c wL_179 (goodIn_c wL_158 (goodIn_c wL_159 (goodIn_c wL_160 goodIn_n))))))))))
theorem ggL_law_X5_recover : GoodIn wsL_law wsX5_recover := (goodIn_c wL_606 (goodIn_app (goodIn_app (goodIn_app gb_wsX5_recover_r1 (goodIn_app gb_wsX5_recover_r2 gb_wsX5_recover_r3)) bk_wsX50) bk_wsX10))
theorem gL_law_X5_recover : GoodIn wsL_law (wsV RL 90 RX5 yX5_recover wsX5_recover) := (goodIn_c wL_603 (goodIn_c wL_604 (goodIn_c wL_605 (goodIn_c wL_2 ggL_law_X5_recover))))
theorem gb_wsX6_recover_r1 : GoodIn wsL_law wsX6_recover_r1 := (goodIn_c wL_147 (goodIn_c wL_120 (goodIn_c wL_298 (goodIn_c wL_299 (goodIn_c wL_300 (goodIn_c wL_5 (goodIn_c wL_301 (goodIn_c wL_106 (goodIn_c wL_107 (goodIn_c wL_169 (goodIn_c wL_112 (goodIn_c wL_109 (goodIn_c wL_111 (goodIn_c wL_110 (goodIn_c wL_302 (goodIn_c wL_303 (goodIn_c wL_304 (goodIn_c wL_305 (goodIn_c wL_306 (goodIn_c wL_307 (goodIn_c wL_308 (goodIn_c wL_309 (goodIn_c wL_113 (goodIn_c wL_105 goodIn_n))))))))))))))))))))))))
theorem gb_wsX6_recover_r2 : GoodIn wsL_law wsX6_recover_r2 := (goodIn_c wL_321 (goodIn_c wL_322 (goodIn_c wL_323 (goodIn_c wL_324 goodIn_n))))
theorem ggL_law_X6_recover : GoodIn wsL_law wsX6_recover := (goodIn_c wL_614 (goodIn_app (goodIn_app gb_wsX6_recover_r1 gb_wsX6_recover_r2) bk_wsX60))
theorem gL_law_X6_recover : GoodIn wsL_law (wsV RL 93 RX6 yX6_recover wsX6_recover) := (goodIn_c wL_611 (goodIn_c wL_612 (goodIn_c wL_613 (goodIn_c wL_5 ggL_law_X6_recover))))
theorem gb_wsX5_count_r1 : GoodIn wsL_law wsX5_count_r1 := (goodIn_c wL_15 (goodIn_c wL_131 (goodIn_c wL_152 (goodIn_c wL_19 (goodIn_c wL_236 (goodIn_c wL_595 (goodIn_c wL_596 (goodIn_c wL_597 (goodIn_c wL_14 (goodIn_c wL_598 (goodIn_c wL_53 (goodIn_c wL_46 (goodIn_c wL_50 (goodIn_c wL_263 (goodIn_c wL_264 (goodIn_c wL_265 (goodIn_c wL_2 (goodIn_c wL_266 (goodIn_c wL_35 (goodIn_c wL_33 (goodIn_c wL_36 (goodIn_c wL_267 (goodIn_c wL_268 (goodIn_c wL_269 goodIn_n))))))))))))))))))))))))
theorem gb_wsX5_count_r2 : GoodIn wsL_law wsX5_count_r2 := (goodIn_c wL_270 (goodIn_c wL_52 (goodIn_c wL_42 (goodIn_c wL_43 (goodIn_c wL_271 (goodIn_c wL_272 (goodIn_c wL_273 (goodIn_c wL_274 (goodIn_c wL_275 (goodIn_c wL_276 (goodIn_c wL_277 (goodIn_c wL_278 (goodIn_c wL_48 (goodIn_c wL_47 (goodIn_c wL_49 (goodIn_c wL_279 (goodIn_c wL_280 (goodIn_c wL_281 (goodIn_c wL_282 (goodIn_c wL_283 (goodIn_c wL_284 (goodIn_c wL_285 (goodIn_c wL_286 (goodIn_c wL_287 goodIn_n))))))))))))))))))))))))
theorem gb_wsX5_count_r3 : GoodIn wsL_law wsX5_count_r3 := (goodIn_c wL_288 (goodIn_c wL_289 (goodIn_c wL_290 (goodIn_c wL_45 (goodIn_c wL_619 (goodIn_c wL_620 (goodIn_c wL_621 (goodIn_c wL_622 (goodIn_c wL_353 (goodIn_c wL_354 (goodIn_c wL_355 (goodIn_c wL_356 (goodIn_c wL_314 (goodIn_c wL_315 (goodIn_c wL_179 (goodIn_c wL_158 (goodIn_c wL_159 (goodIn_c wL_160 (goodIn_c wL_623 (goodIn_c wL_624 (goodIn_c wL_625 (goodIn_c wL_626 (goodIn_c wL_627 (goodIn_c wL_628 goodIn_n))))))))))))))))))))))))
theorem gb_wsX5_count_r4 : GoodIn wsL_law wsX5_count_r4 := (goodIn_c wL_629 (goodIn_c wL_630 (goodIn_c wL_51 (goodIn_c wL_631 (goodIn_c wL_632 (goodIn_c wL_633 (goodIn_c wL_634 (goodIn_c wL_635 (goodIn_c wL_338 (goodIn_c wL_339 (goodIn_c wL_340 goodIn_n)))))))))))
theorem ggL_law_X5_count : GoodIn wsL_law wsX5_count := (goodIn_c wL_618 (goodIn_app (goodIn_app (goodIn_app (goodIn_app gb_wsX5_count_r1 (goodIn_app gb_wsX5_count_r2 (goodIn_app gb_wsX5_count_r3 gb_wsX5_count_r4))) bk_wsX50) bk_wsX10) bk_wsX40))
theorem gL_law_X5_count : GoodIn wsL_law (wsV RL 94 RX5 yX5_count wsX5_count) := (goodIn_c wL_615 (goodIn_c wL_616 (goodIn_c wL_617 (goodIn_c wL_2 ggL_law_X5_count))))
theorem gb_wsX6_count_r1 : GoodIn wsL_law wsX6_count_r1 := (goodIn_c wL_147 (goodIn_c wL_169 (goodIn_c wL_258 (goodIn_c wL_108 (goodIn_c wL_112 (goodIn_c wL_113 (goodIn_c wL_106 (goodIn_c wL_110 (goodIn_c wL_109 (goodIn_c wL_111 (goodIn_c wL_640 (goodIn_c wL_641 (goodIn_c wL_642 (goodIn_c wL_5 (goodIn_c wL_643 (goodIn_c wL_298 (goodIn_c wL_299 (goodIn_c wL_300 (goodIn_c wL_301 (goodIn_c wL_120 (goodIn_c wL_107 (goodIn_c wL_302 (goodIn_c wL_303 (goodIn_c wL_304 goodIn_n))))))))))))))))))))))))
theorem gb_wsX6_count_r2 : GoodIn wsL_law wsX6_count_r2 := (goodIn_c wL_305 (goodIn_c wL_306 (goodIn_c wL_307 (goodIn_c wL_308 (goodIn_c wL_309 (goodIn_c wL_105 (goodIn_c wL_321 (goodIn_c wL_322 (goodIn_c wL_323 (goodIn_c wL_324 goodIn_n))))))))))
theorem ggL_law_X6_count : GoodIn wsL_law wsX6_count := (goodIn_c wL_639 (goodIn_app (goodIn_app gb_wsX6_count_r1 gb_wsX6_count_r2) bk_wsX60))
theorem gL_law_X6_count : GoodIn wsL_law (wsV RL 97 RX6 yX6_count wsX6_count) := (goodIn_c wL_636 (goodIn_c wL_637 (goodIn_c wL_638 (goodIn_c wL_5 ggL_law_X6_count))))
theorem dL_law_0 : decode cL_law 0 = .ok (.new 7, 3) := by decide +kernel
theorem dL_law_3 : decode cL_law 3 = .ok (.dup, 1) := by decide +kernel
theorem dL_law_4 : decode cL_law 4 = .ok (.invokespecial 9, 3) := by decide +kernel
theorem dL_law_7 : decode cL_law 7 = .ok (.astore_n 1, 1) := by decide +kernel
theorem dL_law_8 : decode cL_law 8 = .ok (.new 10, 3) := by decide +kernel
theorem dL_law_11 : decode cL_law 11 = .ok (.dup, 1) := by decide +kernel
theorem dL_law_12 : decode cL_law 12 = .ok (.invokespecial 12, 3) := by decide +kernel
theorem dL_law_15 : decode cL_law 15 = .ok (.astore_n 2, 1) := by decide +kernel
theorem dL_law_16 : decode cL_law 16 = .ok (.iconst 0, 1) := by decide +kernel
theorem dL_law_17 : decode cL_law 17 = .ok (.istore_n 3, 1) := by decide +kernel
theorem dL_law_18 : decode cL_law 18 = .ok (.iload_n 3, 1) := by decide +kernel
theorem dL_law_19 : decode cL_law 19 = .ok (.aload_n 0, 1) := by decide +kernel
theorem dL_law_20 : decode cL_law 20 = .ok (.arraylength, 1) := by decide +kernel
theorem dL_law_21 : decode cL_law 21 = .ok (.bipush 7, 2) := by decide +kernel
theorem dL_law_23 : decode cL_law 23 = .ok (.isub, 1) := by decide +kernel
theorem dL_law_24 : decode cL_law 24 = .ok (.if_icmp .gt 697, 3) := by decide +kernel
theorem dL_law_27 : decode cL_law 27 = .ok (.aload_n 0, 1) := by decide +kernel
theorem dL_law_28 : decode cL_law 28 = .ok (.iload_n 3, 1) := by decide +kernel
theorem dL_law_29 : decode cL_law 29 = .ok (.iaload, 1) := by decide +kernel
theorem dL_law_30 : decode cL_law 30 = .ok (.bipush 31, 2) := by decide +kernel
theorem dL_law_32 : decode cL_law 32 = .ok (.iand, 1) := by decide +kernel
theorem dL_law_33 : decode cL_law 33 = .ok (.tableswitch 682 0 18 #[91, 124, 177, 210, 259, 282, 331, 406, 419, 452, 485, 508, 541, 564, 597, 610, 623, 646, 659], 91) := by decide +kernel
theorem dL_law_124 : decode cL_law 124 = .ok (.aload_n 1, 1) := by decide +kernel
theorem dL_law_125 : decode cL_law 125 = .ok (.aload_n 0, 1) := by decide +kernel
theorem dL_law_126 : decode cL_law 126 = .ok (.iload_n 3, 1) := by decide +kernel
theorem dL_law_127 : decode cL_law 127 = .ok (.iconst 1, 1) := by decide +kernel
theorem dL_law_128 : decode cL_law 128 = .ok (.iadd, 1) := by decide +kernel
theorem dL_law_129 : decode cL_law 129 = .ok (.iaload, 1) := by decide +kernel
theorem dL_law_130 : decode cL_law 130 = .ok (.aload_n 0, 1) := by decide +kernel
theorem dL_law_131 : decode cL_law 131 = .ok (.iload_n 3, 1) := by decide +kernel
theorem dL_law_132 : decode cL_law 132 = .ok (.iconst 2, 1) := by decide +kernel
theorem dL_law_133 : decode cL_law 133 = .ok (.iadd, 1) := by decide +kernel
theorem dL_law_134 : decode cL_law 134 = .ok (.iaload, 1) := by decide +kernel
theorem dL_law_135 : decode cL_law 135 = .ok (.invokevirtual 13, 3) := by decide +kernel
theorem dL_law_138 : decode cL_law 138 = .ok (.pop, 1) := by decide +kernel
theorem dL_law_139 : decode cL_law 139 = .ok (.aload_n 2, 1) := by decide +kernel
theorem dL_law_140 : decode cL_law 140 = .ok (.aload_n 0, 1) := by decide +kernel
theorem dL_law_141 : decode cL_law 141 = .ok (.iload_n 3, 1) := by decide +kernel
theorem dL_law_142 : decode cL_law 142 = .ok (.iconst 1, 1) := by decide +kernel
theorem dL_law_143 : decode cL_law 143 = .ok (.iadd, 1) := by decide +kernel
theorem dL_law_144 : decode cL_law 144 = .ok (.iaload, 1) := by decide +kernel
theorem dL_law_145 : decode cL_law 145 = .ok (.aload_n 0, 1) := by decide +kernel
theorem dL_law_146 : decode cL_law 146 = .ok (.iload_n 3, 1) := by decide +kernel
theorem dL_law_147 : decode cL_law 147 = .ok (.iconst 2, 1) := by decide +kernel
theorem dL_law_148 : decode cL_law 148 = .ok (.iadd, 1) := by decide +kernel
theorem dL_law_149 : decode cL_law 149 = .ok (.iaload, 1) := by decide +kernel
theorem dL_law_150 : decode cL_law 150 = .ok (.invokevirtual 17, 3) := by decide +kernel
theorem dL_law_153 : decode cL_law 153 = .ok (.pop, 1) := by decide +kernel
theorem dL_law_154 : decode cL_law 154 = .ok (.goto 561, 3) := by decide +kernel
theorem dL_law_157 : decode cL_law 157 = .ok (.aload_n 1, 1) := by decide +kernel
theorem dL_law_158 : decode cL_law 158 = .ok (.aload_n 0, 1) := by decide +kernel
theorem dL_law_159 : decode cL_law 159 = .ok (.iload_n 3, 1) := by decide +kernel
theorem dL_law_160 : decode cL_law 160 = .ok (.iconst 1, 1) := by decide +kernel
theorem dL_law_161 : decode cL_law 161 = .ok (.iadd, 1) := by decide +kernel
theorem dL_law_162 : decode cL_law 162 = .ok (.iaload, 1) := by decide +kernel
theorem dL_law_163 : decode cL_law 163 = .ok (.aload_n 0, 1) := by decide +kernel
theorem dL_law_164 : decode cL_law 164 = .ok (.iload_n 3, 1) := by decide +kernel
theorem dL_law_165 : decode cL_law 165 = .ok (.iconst 2, 1) := by decide +kernel
theorem dL_law_166 : decode cL_law 166 = .ok (.iadd, 1) := by decide +kernel
theorem dL_law_167 : decode cL_law 167 = .ok (.iaload, 1) := by decide +kernel
theorem dL_law_168 : decode cL_law 168 = .ok (.aload_n 0, 1) := by decide +kernel
theorem dL_law_169 : decode cL_law 169 = .ok (.iload_n 3, 1) := by decide +kernel
theorem dL_law_170 : decode cL_law 170 = .ok (.iconst 3, 1) := by decide +kernel
theorem dL_law_171 : decode cL_law 171 = .ok (.iadd, 1) := by decide +kernel
theorem dL_law_172 : decode cL_law 172 = .ok (.iaload, 1) := by decide +kernel
theorem dL_law_173 : decode cL_law 173 = .ok (.aload_n 0, 1) := by decide +kernel
theorem dL_law_174 : decode cL_law 174 = .ok (.iload_n 3, 1) := by decide +kernel
theorem dL_law_175 : decode cL_law 175 = .ok (.iconst 4, 1) := by decide +kernel
theorem dL_law_176 : decode cL_law 176 = .ok (.iadd, 1) := by decide +kernel
theorem dL_law_177 : decode cL_law 177 = .ok (.iaload, 1) := by decide +kernel
theorem dL_law_178 : decode cL_law 178 = .ok (.invokevirtual 18, 3) := by decide +kernel
theorem dL_law_181 : decode cL_law 181 = .ok (.aload_n 2, 1) := by decide +kernel
theorem dL_law_182 : decode cL_law 182 = .ok (.aload_n 0, 1) := by decide +kernel
theorem dL_law_183 : decode cL_law 183 = .ok (.iload_n 3, 1) := by decide +kernel
theorem dL_law_184 : decode cL_law 184 = .ok (.iconst 1, 1) := by decide +kernel
theorem dL_law_185 : decode cL_law 185 = .ok (.iadd, 1) := by decide +kernel
theorem dL_law_186 : decode cL_law 186 = .ok (.iaload, 1) := by decide +kernel
theorem dL_law_187 : decode cL_law 187 = .ok (.aload_n 0, 1) := by decide +kernel
theorem dL_law_188 : decode cL_law 188 = .ok (.iload_n 3, 1) := by decide +kernel
theorem dL_law_189 : decode cL_law 189 = .ok (.iconst 2, 1) := by decide +kernel
theorem dL_law_190 : decode cL_law 190 = .ok (.iadd, 1) := by decide +kernel
theorem dL_law_191 : decode cL_law 191 = .ok (.iaload, 1) := by decide +kernel
theorem dL_law_192 : decode cL_law 192 = .ok (.aload_n 0, 1) := by decide +kernel
theorem dL_law_193 : decode cL_law 193 = .ok (.iload_n 3, 1) := by decide +kernel
theorem dL_law_194 : decode cL_law 194 = .ok (.iconst 3, 1) := by decide +kernel
theorem dL_law_195 : decode cL_law 195 = .ok (.iadd, 1) := by decide +kernel
theorem dL_law_196 : decode cL_law 196 = .ok (.iaload, 1) := by decide +kernel
theorem dL_law_197 : decode cL_law 197 = .ok (.aload_n 0, 1) := by decide +kernel
theorem dL_law_198 : decode cL_law 198 = .ok (.iload_n 3, 1) := by decide +kernel
theorem dL_law_199 : decode cL_law 199 = .ok (.iconst 4, 1) := by decide +kernel
theorem dL_law_200 : decode cL_law 200 = .ok (.iadd, 1) := by decide +kernel
theorem dL_law_201 : decode cL_law 201 = .ok (.iaload, 1) := by decide +kernel
theorem dL_law_202 : decode cL_law 202 = .ok (.invokevirtual 22, 3) := by decide +kernel
theorem dL_law_205 : decode cL_law 205 = .ok (.if_icmp .eq 510, 3) := by decide +kernel
theorem dL_law_208 : decode cL_law 208 = .ok (.iconst 0, 1) := by decide +kernel
theorem dL_law_209 : decode cL_law 209 = .ok (.ireturn, 1) := by decide +kernel
theorem dL_law_210 : decode cL_law 210 = .ok (.aload_n 1, 1) := by decide +kernel
theorem dL_law_211 : decode cL_law 211 = .ok (.aload_n 0, 1) := by decide +kernel
theorem dL_law_212 : decode cL_law 212 = .ok (.iload_n 3, 1) := by decide +kernel
theorem dL_law_213 : decode cL_law 213 = .ok (.iconst 1, 1) := by decide +kernel
theorem dL_law_214 : decode cL_law 214 = .ok (.iadd, 1) := by decide +kernel
theorem dL_law_215 : decode cL_law 215 = .ok (.iaload, 1) := by decide +kernel
theorem dL_law_216 : decode cL_law 216 = .ok (.aload_n 0, 1) := by decide +kernel
theorem dL_law_217 : decode cL_law 217 = .ok (.iload_n 3, 1) := by decide +kernel
theorem dL_law_218 : decode cL_law 218 = .ok (.iconst 2, 1) := by decide +kernel
theorem dL_law_219 : decode cL_law 219 = .ok (.iadd, 1) := by decide +kernel
theorem dL_law_220 : decode cL_law 220 = .ok (.iaload, 1) := by decide +kernel
theorem dL_law_221 : decode cL_law 221 = .ok (.invokevirtual 23, 3) := by decide +kernel
theorem dL_law_224 : decode cL_law 224 = .ok (.pop, 1) := by decide +kernel
theorem dL_law_225 : decode cL_law 225 = .ok (.aload_n 2, 1) := by decide +kernel
theorem dL_law_226 : decode cL_law 226 = .ok (.aload_n 0, 1) := by decide +kernel
theorem dL_law_227 : decode cL_law 227 = .ok (.iload_n 3, 1) := by decide +kernel
theorem dL_law_228 : decode cL_law 228 = .ok (.iconst 1, 1) := by decide +kernel
theorem dL_law_229 : decode cL_law 229 = .ok (.iadd, 1) := by decide +kernel
theorem dL_law_230 : decode cL_law 230 = .ok (.iaload, 1) := by decide +kernel
theorem dL_law_231 : decode cL_law 231 = .ok (.aload_n 0, 1) := by decide +kernel
theorem dL_law_232 : decode cL_law 232 = .ok (.iload_n 3, 1) := by decide +kernel
theorem dL_law_233 : decode cL_law 233 = .ok (.iconst 2, 1) := by decide +kernel
theorem dL_law_234 : decode cL_law 234 = .ok (.iadd, 1) := by decide +kernel
theorem dL_law_235 : decode cL_law 235 = .ok (.iaload, 1) := by decide +kernel
theorem dL_law_236 : decode cL_law 236 = .ok (.invokevirtual 27, 3) := by decide +kernel
theorem dL_law_239 : decode cL_law 239 = .ok (.pop, 1) := by decide +kernel
theorem dL_law_240 : decode cL_law 240 = .ok (.goto 475, 3) := by decide +kernel
theorem dL_law_243 : decode cL_law 243 = .ok (.aload_n 1, 1) := by decide +kernel
theorem dL_law_244 : decode cL_law 244 = .ok (.aload_n 0, 1) := by decide +kernel
theorem dL_law_245 : decode cL_law 245 = .ok (.iload_n 3, 1) := by decide +kernel
theorem dL_law_246 : decode cL_law 246 = .ok (.iconst 1, 1) := by decide +kernel
theorem dL_law_247 : decode cL_law 247 = .ok (.iadd, 1) := by decide +kernel
theorem dL_law_248 : decode cL_law 248 = .ok (.iaload, 1) := by decide +kernel
theorem dL_law_249 : decode cL_law 249 = .ok (.aload_n 0, 1) := by decide +kernel
theorem dL_law_250 : decode cL_law 250 = .ok (.iload_n 3, 1) := by decide +kernel
theorem dL_law_251 : decode cL_law 251 = .ok (.iconst 2, 1) := by decide +kernel
theorem dL_law_252 : decode cL_law 252 = .ok (.iadd, 1) := by decide +kernel
theorem dL_law_253 : decode cL_law 253 = .ok (.iaload, 1) := by decide +kernel
theorem dL_law_254 : decode cL_law 254 = .ok (.ifCond .eq 7, 3) := by decide +kernel
theorem dL_law_257 : decode cL_law 257 = .ok (.iconst 1, 1) := by decide +kernel
theorem dL_law_258 : decode cL_law 258 = .ok (.goto 4, 3) := by decide +kernel
theorem dL_law_261 : decode cL_law 261 = .ok (.iconst 0, 1) := by decide +kernel
theorem dL_law_262 : decode cL_law 262 = .ok (.invokevirtual 28, 3) := by decide +kernel
theorem dL_law_265 : decode cL_law 265 = .ok (.pop, 1) := by decide +kernel
theorem dL_law_266 : decode cL_law 266 = .ok (.aload_n 2, 1) := by decide +kernel
theorem dL_law_267 : decode cL_law 267 = .ok (.aload_n 0, 1) := by decide +kernel
theorem dL_law_268 : decode cL_law 268 = .ok (.iload_n 3, 1) := by decide +kernel
theorem dL_law_269 : decode cL_law 269 = .ok (.iconst 1, 1) := by decide +kernel
theorem dL_law_270 : decode cL_law 270 = .ok (.iadd, 1) := by decide +kernel
theorem dL_law_271 : decode cL_law 271 = .ok (.iaload, 1) := by decide +kernel
theorem dL_law_272 : decode cL_law 272 = .ok (.aload_n 0, 1) := by decide +kernel
theorem dL_law_273 : decode cL_law 273 = .ok (.iload_n 3, 1) := by decide +kernel
theorem dL_law_274 : decode cL_law 274 = .ok (.iconst 2, 1) := by decide +kernel
theorem dL_law_275 : decode cL_law 275 = .ok (.iadd, 1) := by decide +kernel
theorem dL_law_276 : decode cL_law 276 = .ok (.iaload, 1) := by decide +kernel
theorem dL_law_277 : decode cL_law 277 = .ok (.ifCond .eq 7, 3) := by decide +kernel
theorem dL_law_280 : decode cL_law 280 = .ok (.iconst 1, 1) := by decide +kernel
theorem dL_law_281 : decode cL_law 281 = .ok (.goto 4, 3) := by decide +kernel
theorem dL_law_284 : decode cL_law 284 = .ok (.iconst 0, 1) := by decide +kernel
theorem dL_law_285 : decode cL_law 285 = .ok (.invokevirtual 32, 3) := by decide +kernel
theorem dL_law_288 : decode cL_law 288 = .ok (.pop, 1) := by decide +kernel
theorem dL_law_289 : decode cL_law 289 = .ok (.goto 426, 3) := by decide +kernel
theorem dL_law_292 : decode cL_law 292 = .ok (.aload_n 1, 1) := by decide +kernel
theorem dL_law_293 : decode cL_law 293 = .ok (.aload_n 0, 1) := by decide +kernel
theorem dL_law_294 : decode cL_law 294 = .ok (.iload_n 3, 1) := by decide +kernel
theorem dL_law_295 : decode cL_law 295 = .ok (.iconst 1, 1) := by decide +kernel
theorem dL_law_296 : decode cL_law 296 = .ok (.iadd, 1) := by decide +kernel
theorem dL_law_297 : decode cL_law 297 = .ok (.iaload, 1) := by decide +kernel
theorem dL_law_298 : decode cL_law 298 = .ok (.invokevirtual 33, 3) := by decide +kernel
theorem dL_law_301 : decode cL_law 301 = .ok (.pop, 1) := by decide +kernel
theorem dL_law_302 : decode cL_law 302 = .ok (.aload_n 2, 1) := by decide +kernel
theorem dL_law_303 : decode cL_law 303 = .ok (.aload_n 0, 1) := by decide +kernel
theorem dL_law_304 : decode cL_law 304 = .ok (.iload_n 3, 1) := by decide +kernel
theorem dL_law_305 : decode cL_law 305 = .ok (.iconst 1, 1) := by decide +kernel
theorem dL_law_306 : decode cL_law 306 = .ok (.iadd, 1) := by decide +kernel
theorem dL_law_307 : decode cL_law 307 = .ok (.iaload, 1) := by decide +kernel
theorem dL_law_308 : decode cL_law 308 = .ok (.invokevirtual 37, 3) := by decide +kernel
theorem dL_law_311 : decode cL_law 311 = .ok (.pop, 1) := by decide +kernel
theorem dL_law_312 : decode cL_law 312 = .ok (.goto 403, 3) := by decide +kernel
theorem dL_law_315 : decode cL_law 315 = .ok (.aload_n 1, 1) := by decide +kernel
theorem dL_law_316 : decode cL_law 316 = .ok (.aload_n 0, 1) := by decide +kernel
theorem dL_law_317 : decode cL_law 317 = .ok (.iload_n 3, 1) := by decide +kernel
theorem dL_law_318 : decode cL_law 318 = .ok (.iconst 1, 1) := by decide +kernel
theorem dL_law_319 : decode cL_law 319 = .ok (.iadd, 1) := by decide +kernel
theorem dL_law_320 : decode cL_law 320 = .ok (.iaload, 1) := by decide +kernel
