theorem dX8_findRows_3 : decode cX8_findRows 3 = .ok (.istore_n 2, 1) := by decide +kernel
theorem dX8_findRows_4 : decode cX8_findRows 4 = .ok (.iload_n 2, 1) := by decide +kernel
theorem dX8_findRows_5 : decode cX8_findRows 5 = .ok (.aload_n 0, 1) := by decide +kernel
theorem dX8_findRows_6 : decode cX8_findRows 6 = .ok (.getfield 120, 3) := by decide +kernel
theorem dX8_findRows_9 : decode cX8_findRows 9 = .ok (.if_icmp .ge 22, 3) := by decide +kernel
theorem dX8_findRows_12 : decode cX8_findRows 12 = .ok (.iload_n 1, 1) := by decide +kernel
theorem dX8_findRows_13 : decode cX8_findRows 13 = .ok (.aload_n 0, 1) := by decide +kernel
theorem dX8_findRows_14 : decode cX8_findRows 14 = .ok (.getfield 38, 3) := by decide +kernel
theorem dX8_findRows_17 : decode cX8_findRows 17 = .ok (.iload_n 2, 1) := by decide +kernel
theorem dX8_findRows_18 : decode cX8_findRows 18 = .ok (.iaload, 1) := by decide +kernel
theorem dX8_findRows_19 : decode cX8_findRows 19 = .ok (.iconst 3, 1) := by decide +kernel
theorem dX8_findRows_20 : decode cX8_findRows 20 = .ok (.iload_n 2, 1) := by decide +kernel
theorem dX8_findRows_21 : decode cX8_findRows 21 = .ok (.imul, 1) := by decide +kernel
theorem dX8_findRows_22 : decode cX8_findRows 22 = .ok (.ishl, 1) := by decide +kernel
theorem dX8_findRows_23 : decode cX8_findRows 23 = .ok (.ior, 1) := by decide +kernel
theorem dX8_findRows_24 : decode cX8_findRows 24 = .ok (.istore_n 1, 1) := by decide +kernel
theorem dX8_findRows_25 : decode cX8_findRows 25 = .ok (.iinc 2 1, 3) := by decide +kernel
theorem dX8_findRows_28 : decode cX8_findRows 28 = .ok (.goto (-24), 3) := by decide +kernel
theorem dX8_findRows_31 : decode cX8_findRows 31 = .ok (.iload_n 1, 1) := by decide +kernel
theorem dX8_findRows_32 : decode cX8_findRows 32 = .ok (.istore_n 2, 1) := by decide +kernel
theorem dX8_findRows_33 : decode cX8_findRows 33 = .ok (.iload_n 2, 1) := by decide +kernel
theorem dX8_findRows_34 : decode cX8_findRows 34 = .ok (.ifCond .lt 99, 3) := by decide +kernel
theorem dX8_findRows_37 : decode cX8_findRows 37 = .ok (.aload_n 0, 1) := by decide +kernel
theorem dX8_findRows_38 : decode cX8_findRows 38 = .ok (.iload_n 2, 1) := by decide +kernel
theorem dX8_findRows_39 : decode cX8_findRows 39 = .ok (.invokevirtual 130, 3) := by decide +kernel
theorem dX8_findRows_42 : decode cX8_findRows 42 = .ok (.ifCond .ne 6, 3) := by decide +kernel
theorem dX8_findRows_45 : decode cX8_findRows 45 = .ok (.goto 82, 3) := by decide +kernel
theorem dX8_findRows_48 : decode cX8_findRows 48 = .ok (.iload_n 2, 1) := by decide +kernel
theorem dX8_findRows_49 : decode cX8_findRows 49 = .ok (.iload_n 1, 1) := by decide +kernel
theorem dX8_findRows_50 : decode cX8_findRows 50 = .ok (.if_icmp .ne 7, 3) := by decide +kernel
theorem dX8_findRows_53 : decode cX8_findRows 53 = .ok (.iconst 0, 1) := by decide +kernel
theorem dX8_findRows_54 : decode cX8_findRows 54 = .ok (.goto 6, 3) := by decide +kernel
theorem dX8_findRows_57 : decode cX8_findRows 57 = .ok (.sipush 1000, 3) := by decide +kernel
theorem dX8_findRows_60 : decode cX8_findRows 60 = .ok (.istore_n 3, 1) := by decide +kernel
theorem dX8_findRows_61 : decode cX8_findRows 61 = .ok (.iconst 0, 1) := by decide +kernel
theorem dX8_findRows_62 : decode cX8_findRows 62 = .ok (.istore 4, 2) := by decide +kernel
theorem dX8_findRows_64 : decode cX8_findRows 64 = .ok (.iload 4, 2) := by decide +kernel
theorem dX8_findRows_66 : decode cX8_findRows 66 = .ok (.bipush 12, 2) := by decide +kernel
theorem dX8_findRows_68 : decode cX8_findRows 68 = .ok (.if_icmp .ge 52, 3) := by decide +kernel
theorem dX8_findRows_71 : decode cX8_findRows 71 = .ok (.iload_n 2, 1) := by decide +kernel
theorem dX8_findRows_72 : decode cX8_findRows 72 = .ok (.iload_n 1, 1) := by decide +kernel
theorem dX8_findRows_73 : decode cX8_findRows 73 = .ok (.if_icmp .eq 47, 3) := by decide +kernel
theorem dX8_findRows_76 : decode cX8_findRows 76 = .ok (.aload_n 0, 1) := by decide +kernel
theorem dX8_findRows_77 : decode cX8_findRows 77 = .ok (.iload_n 2, 1) := by decide +kernel
theorem dX8_findRows_78 : decode cX8_findRows 78 = .ok (.iload 4, 2) := by decide +kernel
theorem dX8_findRows_80 : decode cX8_findRows 80 = .ok (.invokevirtual 133, 3) := by decide +kernel
theorem dX8_findRows_83 : decode cX8_findRows 83 = .ok (.istore 5, 2) := by decide +kernel
theorem dX8_findRows_85 : decode cX8_findRows 85 = .ok (.iload 5, 2) := by decide +kernel
theorem dX8_findRows_87 : decode cX8_findRows 87 = .ok (.iload_n 2, 1) := by decide +kernel
theorem dX8_findRows_88 : decode cX8_findRows 88 = .ok (.if_icmp .eq 26, 3) := by decide +kernel
theorem dX8_findRows_91 : decode cX8_findRows 91 = .ok (.aload_n 0, 1) := by decide +kernel
theorem dX8_findRows_92 : decode cX8_findRows 92 = .ok (.getfield 60, 3) := by decide +kernel
theorem dX8_findRows_95 : decode cX8_findRows 95 = .ok (.iload 5, 2) := by decide +kernel
theorem dX8_findRows_97 : decode cX8_findRows 97 = .ok (.iaload, 1) := by decide +kernel
theorem dX8_findRows_98 : decode cX8_findRows 98 = .ok (.iconst 1, 1) := by decide +kernel
theorem dX8_findRows_99 : decode cX8_findRows 99 = .ok (.iadd, 1) := by decide +kernel
theorem dX8_findRows_100 : decode cX8_findRows 100 = .ok (.iload_n 3, 1) := by decide +kernel
theorem dX8_findRows_101 : decode cX8_findRows 101 = .ok (.if_icmp .ge 13, 3) := by decide +kernel
theorem dX8_findRows_104 : decode cX8_findRows 104 = .ok (.aload_n 0, 1) := by decide +kernel
theorem dX8_findRows_105 : decode cX8_findRows 105 = .ok (.getfield 60, 3) := by decide +kernel
theorem dX8_findRows_108 : decode cX8_findRows 108 = .ok (.iload 5, 2) := by decide +kernel
theorem dX8_findRows_110 : decode cX8_findRows 110 = .ok (.iaload, 1) := by decide +kernel
theorem dX8_findRows_111 : decode cX8_findRows 111 = .ok (.iconst 1, 1) := by decide +kernel
theorem dX8_findRows_112 : decode cX8_findRows 112 = .ok (.iadd, 1) := by decide +kernel
theorem dX8_findRows_113 : decode cX8_findRows 113 = .ok (.istore_n 3, 1) := by decide +kernel
theorem dX8_findRows_114 : decode cX8_findRows 114 = .ok (.iinc 4 1, 3) := by decide +kernel
theorem dX8_findRows_117 : decode cX8_findRows 117 = .ok (.goto (-53), 3) := by decide +kernel
theorem dX8_findRows_120 : decode cX8_findRows 120 = .ok (.aload_n 0, 1) := by decide +kernel
theorem dX8_findRows_121 : decode cX8_findRows 121 = .ok (.getfield 60, 3) := by decide +kernel
theorem dX8_findRows_124 : decode cX8_findRows 124 = .ok (.iload_n 2, 1) := by decide +kernel
theorem dX8_findRows_125 : decode cX8_findRows 125 = .ok (.iload_n 3, 1) := by decide +kernel
theorem dX8_findRows_126 : decode cX8_findRows 126 = .ok (.iastore, 1) := by decide +kernel
theorem dX8_findRows_127 : decode cX8_findRows 127 = .ok (.iinc 2 (-1), 3) := by decide +kernel
theorem dX8_findRows_130 : decode cX8_findRows 130 = .ok (.goto (-97), 3) := by decide +kernel
theorem dX8_findRows_133 : decode cX8_findRows 133 = .ok (.aload_n 0, 1) := by decide +kernel
theorem dX8_findRows_134 : decode cX8_findRows 134 = .ok (.iconst 0, 1) := by decide +kernel
theorem dX8_findRows_135 : decode cX8_findRows 135 = .ok (.putfield 117, 3) := by decide +kernel
theorem dX8_findRows_138 : decode cX8_findRows 138 = .ok (.iconst 0, 1) := by decide +kernel
theorem dX8_findRows_139 : decode cX8_findRows 139 = .ok (.istore_n 2, 1) := by decide +kernel
theorem dX8_findRows_140 : decode cX8_findRows 140 = .ok (.iload_n 2, 1) := by decide +kernel
theorem dX8_findRows_141 : decode cX8_findRows 141 = .ok (.iload_n 1, 1) := by decide +kernel
theorem dX8_findRows_142 : decode cX8_findRows 142 = .ok (.if_icmp .eq 136, 3) := by decide +kernel
theorem dX8_findRows_145 : decode cX8_findRows 145 = .ok (.iconst 0, 1) := by decide +kernel
theorem dX8_findRows_146 : decode cX8_findRows 146 = .ok (.istore_n 3, 1) := by decide +kernel
theorem dX8_findRows_147 : decode cX8_findRows 147 = .ok (.aload_n 0, 1) := by decide +kernel
theorem dX8_findRows_148 : decode cX8_findRows 148 = .ok (.iload_n 2, 1) := by decide +kernel
theorem dX8_findRows_149 : decode cX8_findRows 149 = .ok (.iload_n 3, 1) := by decide +kernel
theorem dX8_findRows_150 : decode cX8_findRows 150 = .ok (.invokevirtual 133, 3) := by decide +kernel
theorem dX8_findRows_153 : decode cX8_findRows 153 = .ok (.iload_n 2, 1) := by decide +kernel
theorem dX8_findRows_154 : decode cX8_findRows 154 = .ok (.if_icmp .eq 25, 3) := by decide +kernel
theorem dX8_findRows_157 : decode cX8_findRows 157 = .ok (.aload_n 0, 1) := by decide +kernel
theorem dX8_findRows_158 : decode cX8_findRows 158 = .ok (.getfield 60, 3) := by decide +kernel
theorem dX8_findRows_161 : decode cX8_findRows 161 = .ok (.aload_n 0, 1) := by decide +kernel
theorem dX8_findRows_162 : decode cX8_findRows 162 = .ok (.iload_n 2, 1) := by decide +kernel
theorem dX8_findRows_163 : decode cX8_findRows 163 = .ok (.iload_n 3, 1) := by decide +kernel
theorem dX8_findRows_164 : decode cX8_findRows 164 = .ok (.invokevirtual 133, 3) := by decide +kernel
theorem dX8_findRows_167 : decode cX8_findRows 167 = .ok (.iaload, 1) := by decide +kernel
theorem dX8_findRows_168 : decode cX8_findRows 168 = .ok (.iconst 1, 1) := by decide +kernel
theorem dX8_findRows_169 : decode cX8_findRows 169 = .ok (.iadd, 1) := by decide +kernel
theorem dX8_findRows_170 : decode cX8_findRows 170 = .ok (.aload_n 0, 1) := by decide +kernel
theorem dX8_findRows_171 : decode cX8_findRows 171 = .ok (.getfield 60, 3) := by decide +kernel
theorem dX8_findRows_174 : decode cX8_findRows 174 = .ok (.iload_n 2, 1) := by decide +kernel
theorem dX8_findRows_175 : decode cX8_findRows 175 = .ok (.iaload, 1) := by decide +kernel
theorem dX8_findRows_176 : decode cX8_findRows 176 = .ok (.if_icmp .eq 10, 3) := by decide +kernel
theorem dX8_findRows_179 : decode cX8_findRows 179 = .ok (.iload_n 3, 1) := by decide +kernel
theorem dX8_findRows_180 : decode cX8_findRows 180 = .ok (.iconst 1, 1) := by decide +kernel
theorem dX8_findRows_181 : decode cX8_findRows 181 = .ok (.iadd, 1) := by decide +kernel
theorem dX8_findRows_182 : decode cX8_findRows 182 = .ok (.istore_n 3, 1) := by decide +kernel
theorem dX8_findRows_183 : decode cX8_findRows 183 = .ok (.goto (-36), 3) := by decide +kernel
theorem dX8_findRows_186 : decode cX8_findRows 186 = .ok (.aload_n 0, 1) := by decide +kernel
theorem dX8_findRows_187 : decode cX8_findRows 187 = .ok (.getfield 32, 3) := by decide +kernel
theorem dX8_findRows_190 : decode cX8_findRows 190 = .ok (.aload_n 0, 1) := by decide +kernel
theorem dX8_findRows_191 : decode cX8_findRows 191 = .ok (.getfield 117, 3) := by decide +kernel
theorem dX8_findRows_194 : decode cX8_findRows 194 = .ok (.iload_n 3, 1) := by decide +kernel
theorem dX8_findRows_195 : decode cX8_findRows 195 = .ok (.iastore, 1) := by decide +kernel
theorem dX8_findRows_196 : decode cX8_findRows 196 = .ok (.iconst 0, 1) := by decide +kernel
theorem dX8_findRows_197 : decode cX8_findRows 197 = .ok (.istore 4, 2) := by decide +kernel
theorem dX8_findRows_199 : decode cX8_findRows 199 = .ok (.iload 4, 2) := by decide +kernel
theorem dX8_findRows_201 : decode cX8_findRows 201 = .ok (.aload_n 0, 1) := by decide +kernel
theorem dX8_findRows_202 : decode cX8_findRows 202 = .ok (.getfield 120, 3) := by decide +kernel
theorem dX8_findRows_205 : decode cX8_findRows 205 = .ok (.if_icmp .ge 53, 3) := by decide +kernel
theorem dX8_findRows_208 : decode cX8_findRows 208 = .ok (.aload_n 0, 1) := by decide +kernel
theorem dX8_findRows_209 : decode cX8_findRows 209 = .ok (.aload_n 0, 1) := by decide +kernel
theorem dX8_findRows_210 : decode cX8_findRows 210 = .ok (.iload_n 2, 1) := by decide +kernel
theorem dX8_findRows_211 : decode cX8_findRows 211 = .ok (.iload_n 3, 1) := by decide +kernel
theorem dX8_findRows_212 : decode cX8_findRows 212 = .ok (.invokevirtual 133, 3) := by decide +kernel
theorem dX8_findRows_215 : decode cX8_findRows 215 = .ok (.iload 4, 2) := by decide +kernel
theorem dX8_findRows_217 : decode cX8_findRows 217 = .ok (.invokevirtual 127, 3) := by decide +kernel
theorem dX8_findRows_220 : decode cX8_findRows 220 = .ok (.aload_n 0, 1) := by decide +kernel
theorem dX8_findRows_221 : decode cX8_findRows 221 = .ok (.iload_n 2, 1) := by decide +kernel
theorem dX8_findRows_222 : decode cX8_findRows 222 = .ok (.iload 4, 2) := by decide +kernel
theorem dX8_findRows_224 : decode cX8_findRows 224 = .ok (.invokevirtual 127, 3) := by decide +kernel
theorem dX8_findRows_227 : decode cX8_findRows 227 = .ok (.if_icmp .le 25, 3) := by decide +kernel
theorem dX8_findRows_230 : decode cX8_findRows 230 = .ok (.aload_n 0, 1) := by decide +kernel
theorem dX8_findRows_231 : decode cX8_findRows 231 = .ok (.getfield 50, 3) := by decide +kernel
theorem dX8_findRows_234 : decode cX8_findRows 234 = .ok (.bipush 7, 2) := by decide +kernel
theorem dX8_findRows_236 : decode cX8_findRows 236 = .ok (.iload 4, 2) := by decide +kernel
theorem dX8_findRows_238 : decode cX8_findRows 238 = .ok (.imul, 1) := by decide +kernel
theorem dX8_findRows_239 : decode cX8_findRows 239 = .ok (.aload_n 0, 1) := by decide +kernel
theorem dX8_findRows_240 : decode cX8_findRows 240 = .ok (.iload_n 2, 1) := by decide +kernel
theorem dX8_findRows_241 : decode cX8_findRows 241 = .ok (.iload 4, 2) := by decide +kernel
theorem dX8_findRows_243 : decode cX8_findRows 243 = .ok (.invokevirtual 127, 3) := by decide +kernel
theorem dX8_findRows_246 : decode cX8_findRows 246 = .ok (.iadd, 1) := by decide +kernel
theorem dX8_findRows_247 : decode cX8_findRows 247 = .ok (.aload_n 0, 1) := by decide +kernel
theorem dX8_findRows_248 : decode cX8_findRows 248 = .ok (.getfield 117, 3) := by decide +kernel
theorem dX8_findRows_251 : decode cX8_findRows 251 = .ok (.iastore, 1) := by decide +kernel
theorem dX8_findRows_252 : decode cX8_findRows 252 = .ok (.iinc 4 1, 3) := by decide +kernel
theorem dX8_findRows_255 : decode cX8_findRows 255 = .ok (.goto (-56), 3) := by decide +kernel
theorem dX8_findRows_258 : decode cX8_findRows 258 = .ok (.aload_n 0, 1) := by decide +kernel
theorem dX8_findRows_259 : decode cX8_findRows 259 = .ok (.aload_n 0, 1) := by decide +kernel
theorem dX8_findRows_260 : decode cX8_findRows 260 = .ok (.getfield 117, 3) := by decide +kernel
theorem dX8_findRows_263 : decode cX8_findRows 263 = .ok (.iconst 1, 1) := by decide +kernel
theorem dX8_findRows_264 : decode cX8_findRows 264 = .ok (.iadd, 1) := by decide +kernel
theorem dX8_findRows_265 : decode cX8_findRows 265 = .ok (.putfield 117, 3) := by decide +kernel
theorem dX8_findRows_268 : decode cX8_findRows 268 = .ok (.aload_n 0, 1) := by decide +kernel
theorem dX8_findRows_269 : decode cX8_findRows 269 = .ok (.iload_n 2, 1) := by decide +kernel
theorem dX8_findRows_270 : decode cX8_findRows 270 = .ok (.iload_n 3, 1) := by decide +kernel
theorem dX8_findRows_271 : decode cX8_findRows 271 = .ok (.invokevirtual 133, 3) := by decide +kernel
theorem dX8_findRows_274 : decode cX8_findRows 274 = .ok (.istore_n 2, 1) := by decide +kernel
theorem dX8_findRows_275 : decode cX8_findRows 275 = .ok (.goto (-135), 3) := by decide +kernel
theorem dX8_findRows_278 : decode cX8_findRows 278 = .ok (.return_, 1) := by decide +kernel
theorem dX8_leaves_0 : decode cX8_leaves 0 = .ok (.iload_n 2, 1) := by decide +kernel
theorem dX8_leaves_1 : decode cX8_leaves 1 = .ok (.aload_n 0, 1) := by decide +kernel
theorem dX8_leaves_2 : decode cX8_leaves 2 = .ok (.getfield 38, 3) := by decide +kernel
theorem dX8_leaves_5 : decode cX8_leaves 5 = .ok (.iload_n 1, 1) := by decide +kernel
theorem dX8_leaves_6 : decode cX8_leaves 6 = .ok (.iaload, 1) := by decide +kernel
theorem dX8_leaves_7 : decode cX8_leaves 7 = .ok (.iconst 1, 1) := by decide +kernel
theorem dX8_leaves_8 : decode cX8_leaves 8 = .ok (.isub, 1) := by decide +kernel
theorem dX8_leaves_9 : decode cX8_leaves 9 = .ok (.if_icmp .ne 17, 3) := by decide +kernel
theorem dX8_leaves_12 : decode cX8_leaves 12 = .ok (.aload_n 0, 1) := by decide +kernel
theorem dX8_leaves_13 : decode cX8_leaves 13 = .ok (.getfield 44, 3) := by decide +kernel
theorem dX8_leaves_16 : decode cX8_leaves 16 = .ok (.bipush 7, 2) := by decide +kernel
theorem dX8_leaves_18 : decode cX8_leaves 18 = .ok (.iload_n 1, 1) := by decide +kernel
theorem dX8_leaves_19 : decode cX8_leaves 19 = .ok (.imul, 1) := by decide +kernel
theorem dX8_leaves_20 : decode cX8_leaves 20 = .ok (.iload_n 2, 1) := by decide +kernel
theorem dX8_leaves_21 : decode cX8_leaves 21 = .ok (.iadd, 1) := by decide +kernel
theorem dX8_leaves_22 : decode cX8_leaves 22 = .ok (.iaload, 1) := by decide +kernel
theorem dX8_leaves_23 : decode cX8_leaves 23 = .ok (.goto 14, 3) := by decide +kernel
theorem dX8_leaves_26 : decode cX8_leaves 26 = .ok (.aload_n 0, 1) := by decide +kernel
theorem dX8_leaves_27 : decode cX8_leaves 27 = .ok (.getfield 47, 3) := by decide +kernel
theorem dX8_leaves_30 : decode cX8_leaves 30 = .ok (.bipush 7, 2) := by decide +kernel
theorem dX8_leaves_32 : decode cX8_leaves 32 = .ok (.iload_n 1, 1) := by decide +kernel
theorem dX8_leaves_33 : decode cX8_leaves 33 = .ok (.imul, 1) := by decide +kernel
theorem dX8_leaves_34 : decode cX8_leaves 34 = .ok (.iload_n 2, 1) := by decide +kernel
theorem dX8_leaves_35 : decode cX8_leaves 35 = .ok (.iadd, 1) := by decide +kernel
theorem dX8_leaves_36 : decode cX8_leaves 36 = .ok (.iaload, 1) := by decide +kernel
theorem dX8_leaves_37 : decode cX8_leaves 37 = .ok (.ireturn, 1) := by decide +kernel
theorem dX8_isBreach_0 : decode cX8_isBreach 0 = .ok (.iconst 0, 1) := by decide +kernel
theorem dX8_isBreach_1 : decode cX8_isBreach 1 = .ok (.istore_n 3, 1) := by decide +kernel
theorem dX8_isBreach_2 : decode cX8_isBreach 2 = .ok (.iload_n 3, 1) := by decide +kernel
theorem dX8_isBreach_3 : decode cX8_isBreach 3 = .ok (.aload_n 0, 1) := by decide +kernel
theorem dX8_isBreach_4 : decode cX8_isBreach 4 = .ok (.getfield 38, 3) := by decide +kernel
theorem dX8_isBreach_7 : decode cX8_isBreach 7 = .ok (.iload_n 1, 1) := by decide +kernel
theorem dX8_isBreach_8 : decode cX8_isBreach 8 = .ok (.iaload, 1) := by decide +kernel
theorem dX8_isBreach_9 : decode cX8_isBreach 9 = .ok (.if_icmp .ge 73, 3) := by decide +kernel
theorem dX8_isBreach_12 : decode cX8_isBreach 12 = .ok (.iconst 0, 1) := by decide +kernel
theorem dX8_isBreach_13 : decode cX8_isBreach 13 = .ok (.istore 4, 2) := by decide +kernel
theorem dX8_isBreach_15 : decode cX8_isBreach 15 = .ok (.iload 4, 2) := by decide +kernel
theorem dX8_isBreach_17 : decode cX8_isBreach 17 = .ok (.aload_n 0, 1) := by decide +kernel
theorem dX8_isBreach_18 : decode cX8_isBreach 18 = .ok (.getfield 38, 3) := by decide +kernel
theorem dX8_isBreach_21 : decode cX8_isBreach 21 = .ok (.iload_n 2, 1) := by decide +kernel
theorem dX8_isBreach_22 : decode cX8_isBreach 22 = .ok (.iaload, 1) := by decide +kernel
theorem dX8_isBreach_23 : decode cX8_isBreach 23 = .ok (.if_icmp .ge 53, 3) := by decide +kernel
theorem dX8_isBreach_26 : decode cX8_isBreach 26 = .ok (.aload_n 0, 1) := by decide +kernel
theorem dX8_isBreach_27 : decode cX8_isBreach 27 = .ok (.getfield 41, 3) := by decide +kernel
theorem dX8_isBreach_30 : decode cX8_isBreach 30 = .ok (.bipush 7, 2) := by decide +kernel
theorem dX8_isBreach_32 : decode cX8_isBreach 32 = .ok (.iload_n 1, 1) := by decide +kernel
theorem dX8_isBreach_33 : decode cX8_isBreach 33 = .ok (.imul, 1) := by decide +kernel
theorem dX8_isBreach_34 : decode cX8_isBreach 34 = .ok (.iload_n 3, 1) := by decide +kernel
theorem dX8_isBreach_35 : decode cX8_isBreach 35 = .ok (.iadd, 1) := by decide +kernel
theorem dX8_isBreach_36 : decode cX8_isBreach 36 = .ok (.iaload, 1) := by decide +kernel
theorem dX8_isBreach_37 : decode cX8_isBreach 37 = .ok (.aload_n 0, 1) := by decide +kernel
theorem dX8_isBreach_38 : decode cX8_isBreach 38 = .ok (.getfield 41, 3) := by decide +kernel
theorem dX8_isBreach_41 : decode cX8_isBreach 41 = .ok (.bipush 7, 2) := by decide +kernel
theorem dX8_isBreach_43 : decode cX8_isBreach 43 = .ok (.iload_n 2, 1) := by decide +kernel
theorem dX8_isBreach_44 : decode cX8_isBreach 44 = .ok (.imul, 1) := by decide +kernel
theorem dX8_isBreach_45 : decode cX8_isBreach 45 = .ok (.iload 4, 2) := by decide +kernel
theorem dX8_isBreach_47 : decode cX8_isBreach 47 = .ok (.iadd, 1) := by decide +kernel
theorem dX8_isBreach_48 : decode cX8_isBreach 48 = .ok (.iaload, 1) := by decide +kernel
theorem dX8_isBreach_49 : decode cX8_isBreach 49 = .ok (.if_icmp .ne 21, 3) := by decide +kernel
theorem dX8_isBreach_52 : decode cX8_isBreach 52 = .ok (.aload_n 0, 1) := by decide +kernel
theorem dX8_isBreach_53 : decode cX8_isBreach 53 = .ok (.iload_n 2, 1) := by decide +kernel
theorem dX8_isBreach_54 : decode cX8_isBreach 54 = .ok (.iload 4, 2) := by decide +kernel
theorem dX8_isBreach_56 : decode cX8_isBreach 56 = .ok (.invokevirtual 136, 3) := by decide +kernel
theorem dX8_isBreach_59 : decode cX8_isBreach 59 = .ok (.aload_n 0, 1) := by decide +kernel
theorem dX8_isBreach_60 : decode cX8_isBreach 60 = .ok (.iload_n 1, 1) := by decide +kernel
theorem dX8_isBreach_61 : decode cX8_isBreach 61 = .ok (.iload_n 3, 1) := by decide +kernel
theorem dX8_isBreach_62 : decode cX8_isBreach 62 = .ok (.invokevirtual 136, 3) := by decide +kernel
theorem dX8_isBreach_65 : decode cX8_isBreach 65 = .ok (.if_icmp .ge 5, 3) := by decide +kernel
theorem dX8_isBreach_68 : decode cX8_isBreach 68 = .ok (.iconst 1, 1) := by decide +kernel
theorem dX8_isBreach_69 : decode cX8_isBreach 69 = .ok (.ireturn, 1) := by decide +kernel
theorem dX8_isBreach_70 : decode cX8_isBreach 70 = .ok (.iinc 4 1, 3) := by decide +kernel
theorem dX8_isBreach_73 : decode cX8_isBreach 73 = .ok (.goto (-58), 3) := by decide +kernel
theorem dX8_isBreach_76 : decode cX8_isBreach 76 = .ok (.iinc 3 1, 3) := by decide +kernel
theorem dX8_isBreach_79 : decode cX8_isBreach 79 = .ok (.goto (-77), 3) := by decide +kernel
theorem dX8_isBreach_82 : decode cX8_isBreach 82 = .ok (.iconst 0, 1) := by decide +kernel
theorem dX8_isBreach_83 : decode cX8_isBreach 83 = .ok (.ireturn, 1) := by decide +kernel
theorem dX8_breachesOf_0 : decode cX8_breachesOf 0 = .ok (.iconst 0, 1) := by decide +kernel
theorem dX8_breachesOf_1 : decode cX8_breachesOf 1 = .ok (.istore_n 2, 1) := by decide +kernel
theorem dX8_breachesOf_2 : decode cX8_breachesOf 2 = .ok (.iconst 0, 1) := by decide +kernel
theorem dX8_breachesOf_3 : decode cX8_breachesOf 3 = .ok (.istore_n 3, 1) := by decide +kernel
theorem dX8_breachesOf_4 : decode cX8_breachesOf 4 = .ok (.iload_n 3, 1) := by decide +kernel
theorem dX8_breachesOf_5 : decode cX8_breachesOf 5 = .ok (.aload_n 0, 1) := by decide +kernel
theorem dX8_breachesOf_6 : decode cX8_breachesOf 6 = .ok (.getfield 120, 3) := by decide +kernel
theorem dX8_breachesOf_9 : decode cX8_breachesOf 9 = .ok (.if_icmp .ge 47, 3) := by decide +kernel
theorem dX8_breachesOf_12 : decode cX8_breachesOf 12 = .ok (.iload_n 3, 1) := by decide +kernel
theorem dX8_breachesOf_13 : decode cX8_breachesOf 13 = .ok (.iconst 1, 1) := by decide +kernel
theorem dX8_breachesOf_14 : decode cX8_breachesOf 14 = .ok (.iadd, 1) := by decide +kernel
theorem dX8_breachesOf_15 : decode cX8_breachesOf 15 = .ok (.istore 4, 2) := by decide +kernel
theorem dX8_breachesOf_17 : decode cX8_breachesOf 17 = .ok (.iload 4, 2) := by decide +kernel
theorem dX8_breachesOf_19 : decode cX8_breachesOf 19 = .ok (.aload_n 0, 1) := by decide +kernel
theorem dX8_breachesOf_20 : decode cX8_breachesOf 20 = .ok (.getfield 120, 3) := by decide +kernel
theorem dX8_breachesOf_23 : decode cX8_breachesOf 23 = .ok (.if_icmp .ge 27, 3) := by decide +kernel
theorem dX8_breachesOf_26 : decode cX8_breachesOf 26 = .ok (.aload_n 0, 1) := by decide +kernel
theorem dX8_breachesOf_27 : decode cX8_breachesOf 27 = .ok (.aload_n 1, 1) := by decide +kernel
theorem dX8_breachesOf_28 : decode cX8_breachesOf 28 = .ok (.iload_n 3, 1) := by decide +kernel
theorem dX8_breachesOf_29 : decode cX8_breachesOf 29 = .ok (.iaload, 1) := by decide +kernel
theorem dX8_breachesOf_30 : decode cX8_breachesOf 30 = .ok (.aload_n 1, 1) := by decide +kernel
theorem dX8_breachesOf_31 : decode cX8_breachesOf 31 = .ok (.iload 4, 2) := by decide +kernel
theorem dX8_breachesOf_33 : decode cX8_breachesOf 33 = .ok (.iaload, 1) := by decide +kernel
theorem dX8_breachesOf_34 : decode cX8_breachesOf 34 = .ok (.invokevirtual 139, 3) := by decide +kernel
theorem dX8_breachesOf_37 : decode cX8_breachesOf 37 = .ok (.ifCond .eq 7, 3) := by decide +kernel
theorem dX8_breachesOf_40 : decode cX8_breachesOf 40 = .ok (.iload_n 2, 1) := by decide +kernel
theorem dX8_breachesOf_41 : decode cX8_breachesOf 41 = .ok (.iconst 1, 1) := by decide +kernel
theorem dX8_breachesOf_42 : decode cX8_breachesOf 42 = .ok (.iadd, 1) := by decide +kernel
theorem dX8_breachesOf_43 : decode cX8_breachesOf 43 = .ok (.istore_n 2, 1) := by decide +kernel
theorem dX8_breachesOf_44 : decode cX8_breachesOf 44 = .ok (.iinc 4 1, 3) := by decide +kernel
theorem dX8_breachesOf_47 : decode cX8_breachesOf 47 = .ok (.goto (-30), 3) := by decide +kernel
theorem dX8_breachesOf_50 : decode cX8_breachesOf 50 = .ok (.iinc 3 1, 3) := by decide +kernel
theorem dX8_breachesOf_53 : decode cX8_breachesOf 53 = .ok (.goto (-49), 3) := by decide +kernel
theorem dX8_breachesOf_56 : decode cX8_breachesOf 56 = .ok (.iload_n 2, 1) := by decide +kernel
theorem dX8_breachesOf_57 : decode cX8_breachesOf 57 = .ok (.ireturn, 1) := by decide +kernel
theorem dX8_goesOn_0 : decode cX8_goesOn 0 = .ok (.aload_n 0, 1) := by decide +kernel
theorem dX8_goesOn_1 : decode cX8_goesOn 1 = .ok (.getfield 120, 3) := by decide +kernel
theorem dX8_goesOn_4 : decode cX8_goesOn 4 = .ok (.iconst 2, 1) := by decide +kernel
theorem dX8_goesOn_5 : decode cX8_goesOn 5 = .ok (.isub, 1) := by decide +kernel
theorem dX8_goesOn_6 : decode cX8_goesOn 6 = .ok (.istore_n 1, 1) := by decide +kernel
theorem dX8_goesOn_7 : decode cX8_goesOn 7 = .ok (.iload_n 1, 1) := by decide +kernel
theorem dX8_goesOn_8 : decode cX8_goesOn 8 = .ok (.ifCond .lt 27, 3) := by decide +kernel
theorem dX8_goesOn_11 : decode cX8_goesOn 11 = .ok (.aload_n 0, 1) := by decide +kernel
theorem dX8_goesOn_12 : decode cX8_goesOn 12 = .ok (.getfield 63, 3) := by decide +kernel
theorem dX8_goesOn_15 : decode cX8_goesOn 15 = .ok (.iload_n 1, 1) := by decide +kernel
theorem dX8_goesOn_16 : decode cX8_goesOn 16 = .ok (.iaload, 1) := by decide +kernel
theorem dX8_goesOn_17 : decode cX8_goesOn 17 = .ok (.aload_n 0, 1) := by decide +kernel
theorem dX8_goesOn_18 : decode cX8_goesOn 18 = .ok (.getfield 63, 3) := by decide +kernel
theorem dX8_goesOn_21 : decode cX8_goesOn 21 = .ok (.iload_n 1, 1) := by decide +kernel
theorem dX8_goesOn_22 : decode cX8_goesOn 22 = .ok (.iconst 1, 1) := by decide +kernel
theorem dX8_goesOn_23 : decode cX8_goesOn 23 = .ok (.iadd, 1) := by decide +kernel
theorem dX8_goesOn_24 : decode cX8_goesOn 24 = .ok (.iaload, 1) := by decide +kernel
theorem dX8_goesOn_25 : decode cX8_goesOn 25 = .ok (.if_icmp .le 10, 3) := by decide +kernel
theorem dX8_goesOn_28 : decode cX8_goesOn 28 = .ok (.iload_n 1, 1) := by decide +kernel
theorem dX8_goesOn_29 : decode cX8_goesOn 29 = .ok (.iconst 1, 1) := by decide +kernel
theorem dX8_goesOn_30 : decode cX8_goesOn 30 = .ok (.isub, 1) := by decide +kernel
theorem dX8_goesOn_31 : decode cX8_goesOn 31 = .ok (.istore_n 1, 1) := by decide +kernel
theorem dX8_goesOn_32 : decode cX8_goesOn 32 = .ok (.goto (-25), 3) := by decide +kernel
theorem dX8_goesOn_35 : decode cX8_goesOn 35 = .ok (.iload_n 1, 1) := by decide +kernel
theorem dX8_goesOn_36 : decode cX8_goesOn 36 = .ok (.ifCond .ge 5, 3) := by decide +kernel
theorem dX8_goesOn_39 : decode cX8_goesOn 39 = .ok (.iconst 0, 1) := by decide +kernel
theorem dX8_goesOn_40 : decode cX8_goesOn 40 = .ok (.ireturn, 1) := by decide +kernel
theorem dX8_goesOn_41 : decode cX8_goesOn 41 = .ok (.aload_n 0, 1) := by decide +kernel
theorem dX8_goesOn_42 : decode cX8_goesOn 42 = .ok (.getfield 120, 3) := by decide +kernel
theorem dX8_goesOn_45 : decode cX8_goesOn 45 = .ok (.iconst 1, 1) := by decide +kernel
theorem dX8_goesOn_46 : decode cX8_goesOn 46 = .ok (.isub, 1) := by decide +kernel
theorem dX8_goesOn_47 : decode cX8_goesOn 47 = .ok (.istore_n 2, 1) := by decide +kernel
theorem dX8_goesOn_48 : decode cX8_goesOn 48 = .ok (.aload_n 0, 1) := by decide +kernel
theorem dX8_goesOn_49 : decode cX8_goesOn 49 = .ok (.getfield 63, 3) := by decide +kernel
theorem dX8_goesOn_52 : decode cX8_goesOn 52 = .ok (.iload_n 2, 1) := by decide +kernel
theorem dX8_goesOn_53 : decode cX8_goesOn 53 = .ok (.iaload, 1) := by decide +kernel
theorem dX8_goesOn_54 : decode cX8_goesOn 54 = .ok (.aload_n 0, 1) := by decide +kernel
theorem dX8_goesOn_55 : decode cX8_goesOn 55 = .ok (.getfield 63, 3) := by decide +kernel
theorem dX8_goesOn_58 : decode cX8_goesOn 58 = .ok (.iload_n 1, 1) := by decide +kernel
theorem dX8_goesOn_59 : decode cX8_goesOn 59 = .ok (.iaload, 1) := by decide +kernel
theorem dX8_goesOn_60 : decode cX8_goesOn 60 = .ok (.if_icmp .ge 10, 3) := by decide +kernel
theorem dX8_goesOn_63 : decode cX8_goesOn 63 = .ok (.iload_n 2, 1) := by decide +kernel
theorem dX8_goesOn_64 : decode cX8_goesOn 64 = .ok (.iconst 1, 1) := by decide +kernel
theorem dX8_goesOn_65 : decode cX8_goesOn 65 = .ok (.isub, 1) := by decide +kernel
theorem dX8_goesOn_66 : decode cX8_goesOn 66 = .ok (.istore_n 2, 1) := by decide +kernel
theorem dX8_goesOn_67 : decode cX8_goesOn 67 = .ok (.goto (-19), 3) := by decide +kernel
theorem dX8_goesOn_70 : decode cX8_goesOn 70 = .ok (.aload_n 0, 1) := by decide +kernel
theorem dX8_goesOn_71 : decode cX8_goesOn 71 = .ok (.iload_n 1, 1) := by decide +kernel
theorem dX8_goesOn_72 : decode cX8_goesOn 72 = .ok (.iload_n 2, 1) := by decide +kernel
theorem dX8_goesOn_73 : decode cX8_goesOn 73 = .ok (.invokevirtual 143, 3) := by decide +kernel
theorem dX8_goesOn_76 : decode cX8_goesOn 76 = .ok (.aload_n 0, 1) := by decide +kernel
theorem dX8_goesOn_77 : decode cX8_goesOn 77 = .ok (.getfield 120, 3) := by decide +kernel
theorem dX8_goesOn_80 : decode cX8_goesOn 80 = .ok (.iconst 1, 1) := by decide +kernel
theorem dX8_goesOn_81 : decode cX8_goesOn 81 = .ok (.isub, 1) := by decide +kernel
theorem dX8_goesOn_82 : decode cX8_goesOn 82 = .ok (.istore_n 3, 1) := by decide +kernel
theorem dX8_goesOn_83 : decode cX8_goesOn 83 = .ok (.iload_n 1, 1) := by decide +kernel
theorem dX8_goesOn_84 : decode cX8_goesOn 84 = .ok (.iconst 1, 1) := by decide +kernel
theorem dX8_goesOn_85 : decode cX8_goesOn 85 = .ok (.iadd, 1) := by decide +kernel
theorem dX8_goesOn_86 : decode cX8_goesOn 86 = .ok (.istore 4, 2) := by decide +kernel
theorem dX8_goesOn_88 : decode cX8_goesOn 88 = .ok (.iload 4, 2) := by decide +kernel
theorem dX8_goesOn_90 : decode cX8_goesOn 90 = .ok (.iload_n 3, 1) := by decide +kernel
theorem dX8_goesOn_91 : decode cX8_goesOn 91 = .ok (.if_icmp .ge 20, 3) := by decide +kernel
theorem dX8_goesOn_94 : decode cX8_goesOn 94 = .ok (.aload_n 0, 1) := by decide +kernel
theorem dX8_goesOn_95 : decode cX8_goesOn 95 = .ok (.iload 4, 2) := by decide +kernel
theorem dX8_goesOn_97 : decode cX8_goesOn 97 = .ok (.iload_n 3, 1) := by decide +kernel
theorem dX8_goesOn_98 : decode cX8_goesOn 98 = .ok (.invokevirtual 143, 3) := by decide +kernel
theorem dX8_goesOn_101 : decode cX8_goesOn 101 = .ok (.iload_n 3, 1) := by decide +kernel
theorem dX8_goesOn_102 : decode cX8_goesOn 102 = .ok (.iconst 1, 1) := by decide +kernel
theorem dX8_goesOn_103 : decode cX8_goesOn 103 = .ok (.isub, 1) := by decide +kernel
theorem dX8_goesOn_104 : decode cX8_goesOn 104 = .ok (.istore_n 3, 1) := by decide +kernel
theorem dX8_goesOn_105 : decode cX8_goesOn 105 = .ok (.iinc 4 1, 3) := by decide +kernel
theorem dX8_goesOn_108 : decode cX8_goesOn 108 = .ok (.goto (-20), 3) := by decide +kernel
theorem dX8_goesOn_111 : decode cX8_goesOn 111 = .ok (.iconst 1, 1) := by decide +kernel
theorem dX8_goesOn_112 : decode cX8_goesOn 112 = .ok (.ireturn, 1) := by decide +kernel
theorem dX8_swap_0 : decode cX8_swap 0 = .ok (.aload_n 0, 1) := by decide +kernel
theorem dX8_swap_1 : decode cX8_swap 1 = .ok (.getfield 63, 3) := by decide +kernel
theorem dX8_swap_4 : decode cX8_swap 4 = .ok (.iload_n 1, 1) := by decide +kernel
theorem dX8_swap_5 : decode cX8_swap 5 = .ok (.iaload, 1) := by decide +kernel
theorem dX8_swap_6 : decode cX8_swap 6 = .ok (.istore_n 3, 1) := by decide +kernel
theorem dX8_swap_7 : decode cX8_swap 7 = .ok (.aload_n 0, 1) := by decide +kernel
theorem dX8_swap_8 : decode cX8_swap 8 = .ok (.getfield 63, 3) := by decide +kernel
theorem dX8_swap_11 : decode cX8_swap 11 = .ok (.iload_n 1, 1) := by decide +kernel
theorem dX8_swap_12 : decode cX8_swap 12 = .ok (.aload_n 0, 1) := by decide +kernel
theorem dX8_swap_13 : decode cX8_swap 13 = .ok (.getfield 63, 3) := by decide +kernel
theorem dX8_swap_16 : decode cX8_swap 16 = .ok (.iload_n 2, 1) := by decide +kernel
theorem dX8_swap_17 : decode cX8_swap 17 = .ok (.iaload, 1) := by decide +kernel
theorem dX8_swap_18 : decode cX8_swap 18 = .ok (.iastore, 1) := by decide +kernel
theorem dX8_swap_19 : decode cX8_swap 19 = .ok (.aload_n 0, 1) := by decide +kernel
theorem dX8_swap_20 : decode cX8_swap 20 = .ok (.getfield 63, 3) := by decide +kernel
theorem dX8_swap_23 : decode cX8_swap 23 = .ok (.iload_n 2, 1) := by decide +kernel
theorem dX8_swap_24 : decode cX8_swap 24 = .ok (.iload_n 3, 1) := by decide +kernel
theorem dX8_swap_25 : decode cX8_swap 25 = .ok (.iastore, 1) := by decide +kernel
theorem dX8_swap_26 : decode cX8_swap 26 = .ok (.return_, 1) := by decide +kernel
theorem dX8_findColumns_0 : decode cX8_findColumns 0 = .ok (.iconst 0, 1) := by decide +kernel
theorem dX8_findColumns_1 : decode cX8_findColumns 1 = .ok (.istore_n 1, 1) := by decide +kernel
theorem dX8_findColumns_2 : decode cX8_findColumns 2 = .ok (.iload_n 1, 1) := by decide +kernel
theorem dX8_findColumns_3 : decode cX8_findColumns 3 = .ok (.aload_n 0, 1) := by decide +kernel
theorem dX8_findColumns_4 : decode cX8_findColumns 4 = .ok (.getfield 120, 3) := by decide +kernel
theorem dX8_findColumns_7 : decode cX8_findColumns 7 = .ok (.if_icmp .ge 16, 3) := by decide +kernel
theorem dX8_findColumns_10 : decode cX8_findColumns 10 = .ok (.aload_n 0, 1) := by decide +kernel
theorem dX8_findColumns_11 : decode cX8_findColumns 11 = .ok (.getfield 63, 3) := by decide +kernel
theorem dX8_findColumns_14 : decode cX8_findColumns 14 = .ok (.iload_n 1, 1) := by decide +kernel
theorem dX8_findColumns_15 : decode cX8_findColumns 15 = .ok (.iload_n 1, 1) := by decide +kernel
theorem dX8_findColumns_16 : decode cX8_findColumns 16 = .ok (.iastore, 1) := by decide +kernel
theorem dX8_findColumns_17 : decode cX8_findColumns 17 = .ok (.iinc 1 1, 3) := by decide +kernel
theorem dX8_findColumns_20 : decode cX8_findColumns 20 = .ok (.goto (-18), 3) := by decide +kernel
theorem dX8_findColumns_23 : decode cX8_findColumns 23 = .ok (.sipush 1000, 3) := by decide +kernel
theorem dX8_findColumns_26 : decode cX8_findColumns 26 = .ok (.istore_n 1, 1) := by decide +kernel
theorem dX8_findColumns_27 : decode cX8_findColumns 27 = .ok (.iconst 1, 1) := by decide +kernel
theorem dX8_findColumns_28 : decode cX8_findColumns 28 = .ok (.istore_n 2, 1) := by decide +kernel
theorem dX8_findColumns_29 : decode cX8_findColumns 29 = .ok (.iload_n 2, 1) := by decide +kernel
theorem dX8_findColumns_30 : decode cX8_findColumns 30 = .ok (.ifCond .eq 59, 3) := by decide +kernel
theorem dX8_findColumns_33 : decode cX8_findColumns 33 = .ok (.aload_n 0, 1) := by decide +kernel
theorem dX8_findColumns_34 : decode cX8_findColumns 34 = .ok (.aload_n 0, 1) := by decide +kernel
theorem dX8_findColumns_35 : decode cX8_findColumns 35 = .ok (.getfield 63, 3) := by decide +kernel
theorem dX8_findColumns_38 : decode cX8_findColumns 38 = .ok (.invokevirtual 147, 3) := by decide +kernel
theorem dX8_findColumns_41 : decode cX8_findColumns 41 = .ok (.istore_n 3, 1) := by decide +kernel
theorem dX8_findColumns_42 : decode cX8_findColumns 42 = .ok (.iload_n 3, 1) := by decide +kernel
theorem dX8_findColumns_43 : decode cX8_findColumns 43 = .ok (.iload_n 1, 1) := by decide +kernel
theorem dX8_findColumns_44 : decode cX8_findColumns 44 = .ok (.if_icmp .ge 37, 3) := by decide +kernel
theorem dX8_findColumns_47 : decode cX8_findColumns 47 = .ok (.iload_n 3, 1) := by decide +kernel
theorem dX8_findColumns_48 : decode cX8_findColumns 48 = .ok (.istore_n 1, 1) := by decide +kernel
theorem dX8_findColumns_49 : decode cX8_findColumns 49 = .ok (.iconst 0, 1) := by decide +kernel
theorem dX8_findColumns_50 : decode cX8_findColumns 50 = .ok (.istore 4, 2) := by decide +kernel
theorem dX8_findColumns_52 : decode cX8_findColumns 52 = .ok (.iload 4, 2) := by decide +kernel
theorem dX8_findColumns_54 : decode cX8_findColumns 54 = .ok (.aload_n 0, 1) := by decide +kernel
theorem dX8_findColumns_55 : decode cX8_findColumns 55 = .ok (.getfield 120, 3) := by decide +kernel
theorem dX8_findColumns_58 : decode cX8_findColumns 58 = .ok (.if_icmp .ge 23, 3) := by decide +kernel
theorem dX8_findColumns_61 : decode cX8_findColumns 61 = .ok (.aload_n 0, 1) := by decide +kernel
theorem dX8_findColumns_62 : decode cX8_findColumns 62 = .ok (.getfield 53, 3) := by decide +kernel
theorem dX8_findColumns_65 : decode cX8_findColumns 65 = .ok (.iload 4, 2) := by decide +kernel
theorem dX8_findColumns_67 : decode cX8_findColumns 67 = .ok (.aload_n 0, 1) := by decide +kernel
theorem dX8_findColumns_68 : decode cX8_findColumns 68 = .ok (.getfield 63, 3) := by decide +kernel
theorem dX8_findColumns_71 : decode cX8_findColumns 71 = .ok (.iload 4, 2) := by decide +kernel
theorem dX8_findColumns_73 : decode cX8_findColumns 73 = .ok (.iaload, 1) := by decide +kernel
theorem dX8_findColumns_74 : decode cX8_findColumns 74 = .ok (.iastore, 1) := by decide +kernel
theorem dX8_findColumns_75 : decode cX8_findColumns 75 = .ok (.iinc 4 1, 3) := by decide +kernel
theorem dX8_findColumns_78 : decode cX8_findColumns 78 = .ok (.goto (-26), 3) := by decide +kernel
theorem dX8_findColumns_81 : decode cX8_findColumns 81 = .ok (.aload_n 0, 1) := by decide +kernel
theorem dX8_findColumns_82 : decode cX8_findColumns 82 = .ok (.invokevirtual 151, 3) := by decide +kernel
theorem dX8_findColumns_85 : decode cX8_findColumns 85 = .ok (.istore_n 2, 1) := by decide +kernel
theorem dX8_findColumns_86 : decode cX8_findColumns 86 = .ok (.goto (-57), 3) := by decide +kernel
theorem dX8_findColumns_89 : decode cX8_findColumns 89 = .ok (.return_, 1) := by decide +kernel
theorem dX8_first_0 : decode cX8_first 0 = .ok (.aload_n 0, 1) := by decide +kernel
theorem dX8_first_1 : decode cX8_first 1 = .ok (.getfield 50, 3) := by decide +kernel
theorem dX8_first_4 : decode cX8_first 4 = .ok (.bipush 7, 2) := by decide +kernel
theorem dX8_first_6 : decode cX8_first 6 = .ok (.iload_n 1, 1) := by decide +kernel
theorem dX8_first_7 : decode cX8_first 7 = .ok (.imul, 1) := by decide +kernel
theorem dX8_first_8 : decode cX8_first 8 = .ok (.iaload, 1) := by decide +kernel
theorem dX8_first_9 : decode cX8_first 9 = .ok (.ireturn, 1) := by decide +kernel
theorem dX8_last_0 : decode cX8_last 0 = .ok (.aload_n 0, 1) := by decide +kernel
theorem dX8_last_1 : decode cX8_last 1 = .ok (.getfield 50, 3) := by decide +kernel
theorem dX8_last_4 : decode cX8_last 4 = .ok (.bipush 7, 2) := by decide +kernel
theorem dX8_last_6 : decode cX8_last 6 = .ok (.iload_n 1, 1) := by decide +kernel
theorem dX8_last_7 : decode cX8_last 7 = .ok (.imul, 1) := by decide +kernel
theorem dX8_last_8 : decode cX8_last 8 = .ok (.aload_n 0, 1) := by decide +kernel
theorem dX8_last_9 : decode cX8_last 9 = .ok (.getfield 38, 3) := by decide +kernel
theorem dX8_last_12 : decode cX8_last 12 = .ok (.iload_n 1, 1) := by decide +kernel
theorem dX8_last_13 : decode cX8_last 13 = .ok (.iaload, 1) := by decide +kernel
theorem dX8_last_14 : decode cX8_last 14 = .ok (.iadd, 1) := by decide +kernel
theorem dX8_last_15 : decode cX8_last 15 = .ok (.iconst 1, 1) := by decide +kernel
theorem dX8_last_16 : decode cX8_last 16 = .ok (.isub, 1) := by decide +kernel
theorem dX8_last_17 : decode cX8_last 17 = .ok (.iaload, 1) := by decide +kernel
theorem dX8_last_18 : decode cX8_last 18 = .ok (.ireturn, 1) := by decide +kernel
theorem dX8_findLanes_0 : decode cX8_findLanes 0 = .ok (.iconst 0, 1) := by decide +kernel
theorem dX8_findLanes_1 : decode cX8_findLanes 1 = .ok (.istore_n 1, 1) := by decide +kernel
theorem dX8_findLanes_2 : decode cX8_findLanes 2 = .ok (.iload_n 1, 1) := by decide +kernel
theorem dX8_findLanes_3 : decode cX8_findLanes 3 = .ok (.aload_n 0, 1) := by decide +kernel
theorem dX8_findLanes_4 : decode cX8_findLanes 4 = .ok (.getfield 120, 3) := by decide +kernel
theorem dX8_findLanes_7 : decode cX8_findLanes 7 = .ok (.if_icmp .ge 16, 3) := by decide +kernel
theorem dX8_findLanes_10 : decode cX8_findLanes 10 = .ok (.aload_n 0, 1) := by decide +kernel
theorem dX8_findLanes_11 : decode cX8_findLanes 11 = .ok (.getfield 56, 3) := by decide +kernel
theorem dX8_findLanes_14 : decode cX8_findLanes 14 = .ok (.iload_n 1, 1) := by decide +kernel
theorem dX8_findLanes_15 : decode cX8_findLanes 15 = .ok (.iconst (-1), 1) := by decide +kernel
theorem dX8_findLanes_16 : decode cX8_findLanes 16 = .ok (.iastore, 1) := by decide +kernel
theorem dX8_findLanes_17 : decode cX8_findLanes 17 = .ok (.iinc 1 1, 3) := by decide +kernel
theorem dX8_findLanes_20 : decode cX8_findLanes 20 = .ok (.goto (-18), 3) := by decide +kernel
theorem dX8_findLanes_23 : decode cX8_findLanes 23 = .ok (.aload_n 0, 1) := by decide +kernel
theorem dX8_findLanes_24 : decode cX8_findLanes 24 = .ok (.iconst 0, 1) := by decide +kernel
theorem dX8_findLanes_25 : decode cX8_findLanes 25 = .ok (.putfield 155, 3) := by decide +kernel
theorem dX8_findLanes_28 : decode cX8_findLanes 28 = .ok (.iconst 0, 1) := by decide +kernel
theorem dX8_findLanes_29 : decode cX8_findLanes 29 = .ok (.istore_n 1, 1) := by decide +kernel
theorem dX8_findLanes_30 : decode cX8_findLanes 30 = .ok (.iload_n 1, 1) := by decide +kernel
theorem dX8_findLanes_31 : decode cX8_findLanes 31 = .ok (.aload_n 0, 1) := by decide +kernel
theorem dX8_findLanes_32 : decode cX8_findLanes 32 = .ok (.getfield 117, 3) := by decide +kernel
theorem dX8_findLanes_35 : decode cX8_findLanes 35 = .ok (.if_icmp .ge 77, 3) := by decide +kernel
theorem dX8_findLanes_38 : decode cX8_findLanes 38 = .ok (.iconst 0, 1) := by decide +kernel
theorem dX8_findLanes_39 : decode cX8_findLanes 39 = .ok (.istore_n 2, 1) := by decide +kernel
theorem dX8_findLanes_40 : decode cX8_findLanes 40 = .ok (.iload_n 2, 1) := by decide +kernel
theorem dX8_findLanes_41 : decode cX8_findLanes 41 = .ok (.aload_n 0, 1) := by decide +kernel
theorem dX8_findLanes_42 : decode cX8_findLanes 42 = .ok (.getfield 120, 3) := by decide +kernel
theorem dX8_findLanes_45 : decode cX8_findLanes 45 = .ok (.if_icmp .ge 61, 3) := by decide +kernel
theorem dX8_findLanes_48 : decode cX8_findLanes 48 = .ok (.aload_n 0, 1) := by decide +kernel
theorem dX8_findLanes_49 : decode cX8_findLanes 49 = .ok (.iload_n 2, 1) := by decide +kernel
theorem dX8_findLanes_50 : decode cX8_findLanes 50 = .ok (.invokevirtual 158, 3) := by decide +kernel
theorem dX8_findLanes_53 : decode cX8_findLanes 53 = .ok (.iload_n 1, 1) := by decide +kernel
theorem dX8_findLanes_54 : decode cX8_findLanes 54 = .ok (.if_icmp .eq 6, 3) := by decide +kernel
theorem dX8_findLanes_57 : decode cX8_findLanes 57 = .ok (.goto 43, 3) := by decide +kernel
theorem dX8_findLanes_60 : decode cX8_findLanes 60 = .ok (.iconst 0, 1) := by decide +kernel
theorem dX8_findLanes_61 : decode cX8_findLanes 61 = .ok (.istore_n 3, 1) := by decide +kernel
theorem dX8_findLanes_62 : decode cX8_findLanes 62 = .ok (.aload_n 0, 1) := by decide +kernel
theorem dX8_findLanes_63 : decode cX8_findLanes 63 = .ok (.iload_n 3, 1) := by decide +kernel
theorem dX8_findLanes_64 : decode cX8_findLanes 64 = .ok (.iload_n 1, 1) := by decide +kernel
theorem dX8_findLanes_65 : decode cX8_findLanes 65 = .ok (.invokevirtual 161, 3) := by decide +kernel
theorem dX8_findLanes_68 : decode cX8_findLanes 68 = .ok (.ifCond .ne 10, 3) := by decide +kernel
theorem dX8_findLanes_71 : decode cX8_findLanes 71 = .ok (.iload_n 3, 1) := by decide +kernel
theorem dX8_findLanes_72 : decode cX8_findLanes 72 = .ok (.iconst 1, 1) := by decide +kernel
theorem dX8_findLanes_73 : decode cX8_findLanes 73 = .ok (.iadd, 1) := by decide +kernel
theorem dX8_findLanes_74 : decode cX8_findLanes 74 = .ok (.istore_n 3, 1) := by decide +kernel
theorem dX8_findLanes_75 : decode cX8_findLanes 75 = .ok (.goto (-13), 3) := by decide +kernel
theorem dX8_findLanes_78 : decode cX8_findLanes 78 = .ok (.aload_n 0, 1) := by decide +kernel
theorem dX8_findLanes_79 : decode cX8_findLanes 79 = .ok (.getfield 56, 3) := by decide +kernel
theorem dX8_findLanes_82 : decode cX8_findLanes 82 = .ok (.iload_n 2, 1) := by decide +kernel
theorem dX8_findLanes_83 : decode cX8_findLanes 83 = .ok (.iload_n 3, 1) := by decide +kernel
theorem dX8_findLanes_84 : decode cX8_findLanes 84 = .ok (.iastore, 1) := by decide +kernel
theorem dX8_findLanes_85 : decode cX8_findLanes 85 = .ok (.iload_n 3, 1) := by decide +kernel
theorem dX8_findLanes_86 : decode cX8_findLanes 86 = .ok (.aload_n 0, 1) := by decide +kernel
theorem dX8_findLanes_87 : decode cX8_findLanes 87 = .ok (.getfield 155, 3) := by decide +kernel
theorem dX8_findLanes_90 : decode cX8_findLanes 90 = .ok (.if_icmp .lt 10, 3) := by decide +kernel
theorem dX8_findLanes_93 : decode cX8_findLanes 93 = .ok (.aload_n 0, 1) := by decide +kernel
theorem dX8_findLanes_94 : decode cX8_findLanes 94 = .ok (.iload_n 3, 1) := by decide +kernel
theorem dX8_findLanes_95 : decode cX8_findLanes 95 = .ok (.iconst 1, 1) := by decide +kernel
theorem dX8_findLanes_96 : decode cX8_findLanes 96 = .ok (.iadd, 1) := by decide +kernel
theorem dX8_findLanes_97 : decode cX8_findLanes 97 = .ok (.putfield 155, 3) := by decide +kernel
theorem dX8_findLanes_100 : decode cX8_findLanes 100 = .ok (.iinc 2 1, 3) := by decide +kernel
theorem dX8_findLanes_103 : decode cX8_findLanes 103 = .ok (.goto (-63), 3) := by decide +kernel
theorem dX8_findLanes_106 : decode cX8_findLanes 106 = .ok (.iinc 1 1, 3) := by decide +kernel
theorem dX8_findLanes_109 : decode cX8_findLanes 109 = .ok (.goto (-79), 3) := by decide +kernel
theorem dX8_findLanes_112 : decode cX8_findLanes 112 = .ok (.return_, 1) := by decide +kernel
theorem dX8_isFree_0 : decode cX8_isFree 0 = .ok (.iconst 0, 1) := by decide +kernel
theorem dX8_isFree_1 : decode cX8_isFree 1 = .ok (.istore_n 3, 1) := by decide +kernel
theorem dX8_isFree_2 : decode cX8_isFree 2 = .ok (.iload_n 3, 1) := by decide +kernel
theorem dX8_isFree_3 : decode cX8_isFree 3 = .ok (.aload_n 0, 1) := by decide +kernel
theorem dX8_isFree_4 : decode cX8_isFree 4 = .ok (.getfield 120, 3) := by decide +kernel
theorem dX8_isFree_7 : decode cX8_isFree 7 = .ok (.if_icmp .ge 30, 3) := by decide +kernel
theorem dX8_isFree_10 : decode cX8_isFree 10 = .ok (.aload_n 0, 1) := by decide +kernel
theorem dX8_isFree_11 : decode cX8_isFree 11 = .ok (.getfield 56, 3) := by decide +kernel
theorem dX8_isFree_14 : decode cX8_isFree 14 = .ok (.iload_n 3, 1) := by decide +kernel
theorem dX8_isFree_15 : decode cX8_isFree 15 = .ok (.iaload, 1) := by decide +kernel
theorem dX8_isFree_16 : decode cX8_isFree 16 = .ok (.iload_n 1, 1) := by decide +kernel
theorem dX8_isFree_17 : decode cX8_isFree 17 = .ok (.if_icmp .ne 14, 3) := by decide +kernel
theorem dX8_isFree_20 : decode cX8_isFree 20 = .ok (.aload_n 0, 1) := by decide +kernel
theorem dX8_isFree_21 : decode cX8_isFree 21 = .ok (.iload_n 3, 1) := by decide +kernel
theorem dX8_isFree_22 : decode cX8_isFree 22 = .ok (.invokevirtual 164, 3) := by decide +kernel
theorem dX8_isFree_25 : decode cX8_isFree 25 = .ok (.iload_n 2, 1) := by decide +kernel
theorem dX8_isFree_26 : decode cX8_isFree 26 = .ok (.if_icmp .lt 5, 3) := by decide +kernel
theorem dX8_isFree_29 : decode cX8_isFree 29 = .ok (.iconst 0, 1) := by decide +kernel
theorem dX8_isFree_30 : decode cX8_isFree 30 = .ok (.ireturn, 1) := by decide +kernel
theorem dX8_isFree_31 : decode cX8_isFree 31 = .ok (.iinc 3 1, 3) := by decide +kernel
theorem dX8_isFree_34 : decode cX8_isFree 34 = .ok (.goto (-32), 3) := by decide +kernel
theorem dX8_isFree_37 : decode cX8_isFree 37 = .ok (.iconst 1, 1) := by decide +kernel
theorem dX8_isFree_38 : decode cX8_isFree 38 = .ok (.ireturn, 1) := by decide +kernel
theorem dX8_table_0 : decode cX8_table 0 = .ok (.aload_n 0, 1) := by decide +kernel
theorem dX8_table_1 : decode cX8_table 1 = .ok (.iconst 0, 1) := by decide +kernel
theorem dX8_table_2 : decode cX8_table 2 = .ok (.putfield 94, 3) := by decide +kernel
theorem dX8_table_5 : decode cX8_table 5 = .ok (.iload_n 1, 1) := by decide +kernel
theorem dX8_table_6 : decode cX8_table 6 = .ok (.iconst 1, 1) := by decide +kernel
theorem dX8_table_7 : decode cX8_table 7 = .ok (.if_icmp .lt 23, 3) := by decide +kernel
theorem dX8_table_10 : decode cX8_table 10 = .ok (.iload_n 1, 1) := by decide +kernel
theorem dX8_table_11 : decode cX8_table 11 = .ok (.iconst 1, 1) := by decide +kernel
theorem dX8_table_12 : decode cX8_table 12 = .ok (.aload_n 0, 1) := by decide +kernel
theorem dX8_table_13 : decode cX8_table 13 = .ok (.getfield 97, 3) := by decide +kernel
theorem dX8_table_16 : decode cX8_table 16 = .ok (.ishl, 1) := by decide +kernel
theorem dX8_table_17 : decode cX8_table 17 = .ok (.if_icmp .ge 13, 3) := by decide +kernel
theorem dX8_table_20 : decode cX8_table 20 = .ok (.aload_n 0, 1) := by decide +kernel
theorem dX8_table_21 : decode cX8_table 21 = .ok (.iload_n 1, 1) := by decide +kernel
theorem dX8_table_22 : decode cX8_table 22 = .ok (.invokevirtual 123, 3) := by decide +kernel
theorem dX8_table_25 : decode cX8_table 25 = .ok (.bipush 6, 2) := by decide +kernel
theorem dX8_table_27 : decode cX8_table 27 = .ok (.if_icmp .le 5, 3) := by decide +kernel
theorem dX8_table_30 : decode cX8_table 30 = .ok (.iconst (-1), 1) := by decide +kernel
theorem dX8_table_31 : decode cX8_table 31 = .ok (.ireturn, 1) := by decide +kernel
theorem dX8_table_32 : decode cX8_table 32 = .ok (.iconst 0, 1) := by decide +kernel
theorem dX8_table_33 : decode cX8_table 33 = .ok (.istore_n 2, 1) := by decide +kernel
theorem dX8_table_34 : decode cX8_table 34 = .ok (.iload_n 2, 1) := by decide +kernel
theorem dX8_table_35 : decode cX8_table 35 = .ok (.aload_n 0, 1) := by decide +kernel
theorem dX8_table_36 : decode cX8_table 36 = .ok (.getfield 97, 3) := by decide +kernel
theorem dX8_table_39 : decode cX8_table 39 = .ok (.if_icmp .ge 30, 3) := by decide +kernel
theorem dX8_table_42 : decode cX8_table 42 = .ok (.iload_n 1, 1) := by decide +kernel
theorem dX8_table_43 : decode cX8_table 43 = .ok (.iload_n 2, 1) := by decide +kernel
theorem dX8_table_44 : decode cX8_table 44 = .ok (.ishr, 1) := by decide +kernel
theorem dX8_table_45 : decode cX8_table 45 = .ok (.iconst 1, 1) := by decide +kernel
theorem dX8_table_46 : decode cX8_table 46 = .ok (.iand, 1) := by decide +kernel
theorem dX8_table_47 : decode cX8_table 47 = .ok (.iconst 1, 1) := by decide +kernel
theorem dX8_table_48 : decode cX8_table 48 = .ok (.if_icmp .ne 15, 3) := by decide +kernel
theorem dX8_table_51 : decode cX8_table 51 = .ok (.aload_n 0, 1) := by decide +kernel
theorem dX8_table_52 : decode cX8_table 52 = .ok (.getfield 17, 3) := by decide +kernel
theorem dX8_table_55 : decode cX8_table 55 = .ok (.iload_n 2, 1) := by decide +kernel
theorem dX8_table_56 : decode cX8_table 56 = .ok (.iaload, 1) := by decide +kernel
theorem dX8_table_57 : decode cX8_table 57 = .ok (.iconst 2, 1) := by decide +kernel
theorem dX8_table_58 : decode cX8_table 58 = .ok (.if_icmp .ge 5, 3) := by decide +kernel
theorem dX8_table_61 : decode cX8_table 61 = .ok (.iconst (-1), 1) := by decide +kernel
theorem dX8_table_62 : decode cX8_table 62 = .ok (.ireturn, 1) := by decide +kernel
theorem dX8_table_63 : decode cX8_table 63 = .ok (.iinc 2 1, 3) := by decide +kernel
theorem dX8_table_66 : decode cX8_table 66 = .ok (.goto (-32), 3) := by decide +kernel
theorem dX8_table_69 : decode cX8_table 69 = .ok (.aload_n 0, 1) := by decide +kernel
theorem dX8_table_70 : decode cX8_table 70 = .ok (.iconst 0, 1) := by decide +kernel
theorem dX8_table_71 : decode cX8_table 71 = .ok (.putfield 120, 3) := by decide +kernel
theorem dX8_table_74 : decode cX8_table 74 = .ok (.iconst 0, 1) := by decide +kernel
theorem dX8_table_75 : decode cX8_table 75 = .ok (.istore_n 2, 1) := by decide +kernel
theorem dX8_table_76 : decode cX8_table 76 = .ok (.iload_n 2, 1) := by decide +kernel
theorem dX8_table_77 : decode cX8_table 77 = .ok (.aload_n 0, 1) := by decide +kernel
theorem dX8_table_78 : decode cX8_table 78 = .ok (.getfield 97, 3) := by decide +kernel
theorem dX8_table_81 : decode cX8_table 81 = .ok (.if_icmp .ge 148, 3) := by decide +kernel
theorem dX8_table_84 : decode cX8_table 84 = .ok (.iload_n 1, 1) := by decide +kernel
theorem dX8_table_85 : decode cX8_table 85 = .ok (.iload_n 2, 1) := by decide +kernel
theorem dX8_table_86 : decode cX8_table 86 = .ok (.ishr, 1) := by decide +kernel
theorem dX8_table_87 : decode cX8_table 87 = .ok (.iconst 1, 1) := by decide +kernel
theorem dX8_table_88 : decode cX8_table 88 = .ok (.iand, 1) := by decide +kernel
theorem dX8_table_89 : decode cX8_table 89 = .ok (.ifCond .ne 6, 3) := by decide +kernel
theorem dX8_table_92 : decode cX8_table 92 = .ok (.goto 131, 3) := by decide +kernel
theorem dX8_table_95 : decode cX8_table 95 = .ok (.aload_n 0, 1) := by decide +kernel
theorem dX8_table_96 : decode cX8_table 96 = .ok (.getfield 35, 3) := by decide +kernel
theorem dX8_table_99 : decode cX8_table 99 = .ok (.aload_n 0, 1) := by decide +kernel
theorem dX8_table_100 : decode cX8_table 100 = .ok (.getfield 120, 3) := by decide +kernel
theorem dX8_table_103 : decode cX8_table 103 = .ok (.iload_n 2, 1) := by decide +kernel
theorem dX8_table_104 : decode cX8_table 104 = .ok (.iastore, 1) := by decide +kernel
theorem dX8_table_105 : decode cX8_table 105 = .ok (.aload_n 0, 1) := by decide +kernel
theorem dX8_table_106 : decode cX8_table 106 = .ok (.getfield 38, 3) := by decide +kernel
theorem dX8_table_109 : decode cX8_table 109 = .ok (.aload_n 0, 1) := by decide +kernel
theorem dX8_table_110 : decode cX8_table 110 = .ok (.getfield 120, 3) := by decide +kernel
theorem dX8_table_113 : decode cX8_table 113 = .ok (.aload_n 0, 1) := by decide +kernel
theorem dX8_table_114 : decode cX8_table 114 = .ok (.getfield 17, 3) := by decide +kernel
theorem dX8_table_117 : decode cX8_table 117 = .ok (.iload_n 2, 1) := by decide +kernel
theorem dX8_table_118 : decode cX8_table 118 = .ok (.iaload, 1) := by decide +kernel
theorem dX8_table_119 : decode cX8_table 119 = .ok (.iastore, 1) := by decide +kernel
theorem dX8_table_120 : decode cX8_table 120 = .ok (.iconst 0, 1) := by decide +kernel
theorem dX8_table_121 : decode cX8_table 121 = .ok (.istore_n 3, 1) := by decide +kernel
theorem dX8_table_122 : decode cX8_table 122 = .ok (.iload_n 3, 1) := by decide +kernel
theorem dX8_table_123 : decode cX8_table 123 = .ok (.aload_n 0, 1) := by decide +kernel
theorem dX8_table_124 : decode cX8_table 124 = .ok (.getfield 17, 3) := by decide +kernel
theorem dX8_table_127 : decode cX8_table 127 = .ok (.iload_n 2, 1) := by decide +kernel
theorem dX8_table_128 : decode cX8_table 128 = .ok (.iaload, 1) := by decide +kernel
theorem dX8_table_129 : decode cX8_table 129 = .ok (.if_icmp .ge 84, 3) := by decide +kernel
theorem dX8_table_132 : decode cX8_table 132 = .ok (.aload_n 0, 1) := by decide +kernel
theorem dX8_table_133 : decode cX8_table 133 = .ok (.getfield 41, 3) := by decide +kernel
theorem dX8_table_136 : decode cX8_table 136 = .ok (.bipush 7, 2) := by decide +kernel
theorem dX8_table_138 : decode cX8_table 138 = .ok (.aload_n 0, 1) := by decide +kernel
theorem dX8_table_139 : decode cX8_table 139 = .ok (.getfield 120, 3) := by decide +kernel
theorem dX8_table_142 : decode cX8_table 142 = .ok (.imul, 1) := by decide +kernel
theorem dX8_table_143 : decode cX8_table 143 = .ok (.iload_n 3, 1) := by decide +kernel
theorem dX8_table_144 : decode cX8_table 144 = .ok (.iadd, 1) := by decide +kernel
theorem dX8_table_145 : decode cX8_table 145 = .ok (.aload_n 0, 1) := by decide +kernel
theorem dX8_table_146 : decode cX8_table 146 = .ok (.getfield 20, 3) := by decide +kernel
theorem dX8_table_149 : decode cX8_table 149 = .ok (.bipush 7, 2) := by decide +kernel
theorem dX8_table_151 : decode cX8_table 151 = .ok (.iload_n 2, 1) := by decide +kernel
theorem dX8_table_152 : decode cX8_table 152 = .ok (.imul, 1) := by decide +kernel
theorem dX8_table_153 : decode cX8_table 153 = .ok (.iload_n 3, 1) := by decide +kernel
theorem dX8_table_154 : decode cX8_table 154 = .ok (.iadd, 1) := by decide +kernel
theorem dX8_table_155 : decode cX8_table 155 = .ok (.iaload, 1) := by decide +kernel
theorem dX8_table_156 : decode cX8_table 156 = .ok (.iastore, 1) := by decide +kernel
theorem dX8_table_157 : decode cX8_table 157 = .ok (.aload_n 0, 1) := by decide +kernel
theorem dX8_table_158 : decode cX8_table 158 = .ok (.getfield 44, 3) := by decide +kernel
theorem dX8_table_161 : decode cX8_table 161 = .ok (.bipush 7, 2) := by decide +kernel
theorem dX8_table_163 : decode cX8_table 163 = .ok (.aload_n 0, 1) := by decide +kernel
theorem dX8_table_164 : decode cX8_table 164 = .ok (.getfield 120, 3) := by decide +kernel
theorem dX8_table_167 : decode cX8_table 167 = .ok (.imul, 1) := by decide +kernel
theorem dX8_table_168 : decode cX8_table 168 = .ok (.iload_n 3, 1) := by decide +kernel
theorem dX8_table_169 : decode cX8_table 169 = .ok (.iadd, 1) := by decide +kernel
theorem dX8_table_170 : decode cX8_table 170 = .ok (.aload_n 0, 1) := by decide +kernel
theorem dX8_table_171 : decode cX8_table 171 = .ok (.getfield 23, 3) := by decide +kernel
theorem dX8_table_174 : decode cX8_table 174 = .ok (.bipush 7, 2) := by decide +kernel
theorem dX8_table_176 : decode cX8_table 176 = .ok (.iload_n 2, 1) := by decide +kernel
theorem dX8_table_177 : decode cX8_table 177 = .ok (.imul, 1) := by decide +kernel
theorem dX8_table_178 : decode cX8_table 178 = .ok (.iload_n 3, 1) := by decide +kernel
theorem dX8_table_179 : decode cX8_table 179 = .ok (.iadd, 1) := by decide +kernel
theorem dX8_table_180 : decode cX8_table 180 = .ok (.iaload, 1) := by decide +kernel
theorem dX8_table_181 : decode cX8_table 181 = .ok (.iastore, 1) := by decide +kernel
theorem dX8_table_182 : decode cX8_table 182 = .ok (.aload_n 0, 1) := by decide +kernel
theorem dX8_table_183 : decode cX8_table 183 = .ok (.getfield 47, 3) := by decide +kernel
theorem dX8_table_186 : decode cX8_table 186 = .ok (.bipush 7, 2) := by decide +kernel
theorem dX8_table_188 : decode cX8_table 188 = .ok (.aload_n 0, 1) := by decide +kernel
theorem dX8_table_189 : decode cX8_table 189 = .ok (.getfield 120, 3) := by decide +kernel
theorem dX8_table_192 : decode cX8_table 192 = .ok (.imul, 1) := by decide +kernel
theorem dX8_table_193 : decode cX8_table 193 = .ok (.iload_n 3, 1) := by decide +kernel
theorem dX8_table_194 : decode cX8_table 194 = .ok (.iadd, 1) := by decide +kernel
theorem dX8_table_195 : decode cX8_table 195 = .ok (.aload_n 0, 1) := by decide +kernel
theorem dX8_table_196 : decode cX8_table 196 = .ok (.getfield 26, 3) := by decide +kernel
theorem dX8_table_199 : decode cX8_table 199 = .ok (.bipush 7, 2) := by decide +kernel
theorem dX8_table_201 : decode cX8_table 201 = .ok (.iload_n 2, 1) := by decide +kernel
theorem dX8_table_202 : decode cX8_table 202 = .ok (.imul, 1) := by decide +kernel
theorem dX8_table_203 : decode cX8_table 203 = .ok (.iload_n 3, 1) := by decide +kernel
theorem dX8_table_204 : decode cX8_table 204 = .ok (.iadd, 1) := by decide +kernel
theorem dX8_table_205 : decode cX8_table 205 = .ok (.iaload, 1) := by decide +kernel
theorem dX8_table_206 : decode cX8_table 206 = .ok (.iastore, 1) := by decide +kernel
theorem dX8_table_207 : decode cX8_table 207 = .ok (.iinc 3 1, 3) := by decide +kernel
theorem dX8_table_210 : decode cX8_table 210 = .ok (.goto (-88), 3) := by decide +kernel
theorem dX8_table_213 : decode cX8_table 213 = .ok (.aload_n 0, 1) := by decide +kernel
theorem dX8_table_214 : decode cX8_table 214 = .ok (.aload_n 0, 1) := by decide +kernel
theorem dX8_table_215 : decode cX8_table 215 = .ok (.getfield 120, 3) := by decide +kernel
theorem dX8_table_218 : decode cX8_table 218 = .ok (.iconst 1, 1) := by decide +kernel
theorem dX8_table_219 : decode cX8_table 219 = .ok (.iadd, 1) := by decide +kernel
theorem dX8_table_220 : decode cX8_table 220 = .ok (.putfield 120, 3) := by decide +kernel
theorem dX8_table_223 : decode cX8_table 223 = .ok (.iinc 2 1, 3) := by decide +kernel
theorem dX8_table_226 : decode cX8_table 226 = .ok (.goto (-150), 3) := by decide +kernel
theorem dX8_table_229 : decode cX8_table 229 = .ok (.aload_n 0, 1) := by decide +kernel
theorem dX8_table_230 : decode cX8_table 230 = .ok (.invokevirtual 167, 3) := by decide +kernel
theorem dX8_table_233 : decode cX8_table 233 = .ok (.aload_n 0, 1) := by decide +kernel
theorem dX8_table_234 : decode cX8_table 234 = .ok (.invokevirtual 170, 3) := by decide +kernel
theorem dX8_table_237 : decode cX8_table 237 = .ok (.aload_n 0, 1) := by decide +kernel
theorem dX8_table_238 : decode cX8_table 238 = .ok (.invokevirtual 173, 3) := by decide +kernel
theorem dX8_table_241 : decode cX8_table 241 = .ok (.aload_n 0, 1) := by decide +kernel
theorem dX8_table_242 : decode cX8_table 242 = .ok (.getfield 117, 3) := by decide +kernel
theorem dX8_table_245 : decode cX8_table 245 = .ok (.ireturn, 1) := by decide +kernel
theorem dX8_row_0 : decode cX8_row 0 = .ok (.aload_n 0, 1) := by decide +kernel
theorem dX8_row_1 : decode cX8_row 1 = .ok (.iconst 0, 1) := by decide +kernel
theorem dX8_row_2 : decode cX8_row 2 = .ok (.putfield 94, 3) := by decide +kernel
theorem dX8_row_5 : decode cX8_row 5 = .ok (.iload_n 1, 1) := by decide +kernel
theorem dX8_row_6 : decode cX8_row 6 = .ok (.ifCond .lt 20, 3) := by decide +kernel
theorem dX8_row_9 : decode cX8_row 9 = .ok (.iload_n 1, 1) := by decide +kernel
theorem dX8_row_10 : decode cX8_row 10 = .ok (.aload_n 0, 1) := by decide +kernel
theorem dX8_row_11 : decode cX8_row 11 = .ok (.getfield 117, 3) := by decide +kernel
theorem dX8_row_14 : decode cX8_row 14 = .ok (.if_icmp .ge 12, 3) := by decide +kernel
theorem dX8_row_17 : decode cX8_row 17 = .ok (.aload_n 0, 1) := by decide +kernel
theorem dX8_row_18 : decode cX8_row 18 = .ok (.getfield 32, 3) := by decide +kernel
theorem dX8_row_21 : decode cX8_row 21 = .ok (.iload_n 1, 1) := by decide +kernel
theorem dX8_row_22 : decode cX8_row 22 = .ok (.iaload, 1) := by decide +kernel
theorem dX8_row_23 : decode cX8_row 23 = .ok (.goto 4, 3) := by decide +kernel
theorem dX8_row_26 : decode cX8_row 26 = .ok (.iconst (-1), 1) := by decide +kernel
theorem dX8_row_27 : decode cX8_row 27 = .ok (.ireturn, 1) := by decide +kernel
theorem dX8_isColumn_0 : decode cX8_isColumn 0 = .ok (.iload_n 1, 1) := by decide +kernel
theorem dX8_isColumn_1 : decode cX8_isColumn 1 = .ok (.ifCond .lt 15, 3) := by decide +kernel
theorem dX8_isColumn_4 : decode cX8_isColumn 4 = .ok (.iload_n 1, 1) := by decide +kernel
theorem dX8_isColumn_5 : decode cX8_isColumn 5 = .ok (.aload_n 0, 1) := by decide +kernel
theorem dX8_isColumn_6 : decode cX8_isColumn 6 = .ok (.getfield 120, 3) := by decide +kernel
theorem dX8_isColumn_9 : decode cX8_isColumn 9 = .ok (.if_icmp .ge 7, 3) := by decide +kernel
theorem dX8_isColumn_12 : decode cX8_isColumn 12 = .ok (.iconst 1, 1) := by decide +kernel
theorem dX8_isColumn_13 : decode cX8_isColumn 13 = .ok (.goto 4, 3) := by decide +kernel
theorem dX8_isColumn_16 : decode cX8_isColumn 16 = .ok (.iconst 0, 1) := by decide +kernel
theorem dX8_isColumn_17 : decode cX8_isColumn 17 = .ok (.ireturn, 1) := by decide +kernel
theorem dX8_column_0 : decode cX8_column 0 = .ok (.aload_n 0, 1) := by decide +kernel
theorem dX8_column_1 : decode cX8_column 1 = .ok (.iconst 0, 1) := by decide +kernel
theorem dX8_column_2 : decode cX8_column 2 = .ok (.putfield 94, 3) := by decide +kernel
theorem dX8_column_5 : decode cX8_column 5 = .ok (.aload_n 0, 1) := by decide +kernel
theorem dX8_column_6 : decode cX8_column 6 = .ok (.iload_n 1, 1) := by decide +kernel
theorem dX8_column_7 : decode cX8_column 7 = .ok (.invokevirtual 176, 3) := by decide +kernel
theorem dX8_column_10 : decode cX8_column 10 = .ok (.ifCond .eq 17, 3) := by decide +kernel
theorem dX8_column_13 : decode cX8_column 13 = .ok (.aload_n 0, 1) := by decide +kernel
theorem dX8_column_14 : decode cX8_column 14 = .ok (.getfield 35, 3) := by decide +kernel
theorem dX8_column_17 : decode cX8_column 17 = .ok (.aload_n 0, 1) := by decide +kernel
theorem dX8_column_18 : decode cX8_column 18 = .ok (.getfield 53, 3) := by decide +kernel
theorem dX8_column_21 : decode cX8_column 21 = .ok (.iload_n 1, 1) := by decide +kernel
theorem dX8_column_22 : decode cX8_column 22 = .ok (.iaload, 1) := by decide +kernel
theorem dX8_column_23 : decode cX8_column 23 = .ok (.iaload, 1) := by decide +kernel
theorem dX8_column_24 : decode cX8_column 24 = .ok (.goto 4, 3) := by decide +kernel
theorem dX8_column_27 : decode cX8_column 27 = .ok (.iconst (-1), 1) := by decide +kernel
theorem dX8_column_28 : decode cX8_column 28 = .ok (.ireturn, 1) := by decide +kernel
theorem dX8_cell_0 : decode cX8_cell 0 = .ok (.aload_n 0, 1) := by decide +kernel
theorem dX8_cell_1 : decode cX8_cell 1 = .ok (.iconst 0, 1) := by decide +kernel
theorem dX8_cell_2 : decode cX8_cell 2 = .ok (.putfield 94, 3) := by decide +kernel
theorem dX8_cell_5 : decode cX8_cell 5 = .ok (.iload_n 1, 1) := by decide +kernel
theorem dX8_cell_6 : decode cX8_cell 6 = .ok (.ifCond .lt 28, 3) := by decide +kernel
theorem dX8_cell_9 : decode cX8_cell 9 = .ok (.iload_n 1, 1) := by decide +kernel
theorem dX8_cell_10 : decode cX8_cell 10 = .ok (.aload_n 0, 1) := by decide +kernel
theorem dX8_cell_11 : decode cX8_cell 11 = .ok (.getfield 117, 3) := by decide +kernel
theorem dX8_cell_14 : decode cX8_cell 14 = .ok (.if_icmp .ge 20, 3) := by decide +kernel
theorem dX8_cell_17 : decode cX8_cell 17 = .ok (.aload_n 0, 1) := by decide +kernel
theorem dX8_cell_18 : decode cX8_cell 18 = .ok (.iload_n 2, 1) := by decide +kernel
theorem dX8_cell_19 : decode cX8_cell 19 = .ok (.invokevirtual 176, 3) := by decide +kernel
theorem dX8_cell_22 : decode cX8_cell 22 = .ok (.ifCond .eq 12, 3) := by decide +kernel
theorem dX8_cell_25 : decode cX8_cell 25 = .ok (.iload_n 3, 1) := by decide +kernel
theorem dX8_cell_26 : decode cX8_cell 26 = .ok (.ifCond .lt 8, 3) := by decide +kernel
theorem dX8_cell_29 : decode cX8_cell 29 = .ok (.iload_n 3, 1) := by decide +kernel
theorem dX8_cell_30 : decode cX8_cell 30 = .ok (.iconst 1, 1) := by decide +kernel
theorem dX8_cell_31 : decode cX8_cell 31 = .ok (.if_icmp .le 6, 3) := by decide +kernel
theorem dX8_cell_34 : decode cX8_cell 34 = .ok (.bipush (-3), 2) := by decide +kernel
theorem dX8_cell_36 : decode cX8_cell 36 = .ok (.ireturn, 1) := by decide +kernel
theorem dX8_cell_37 : decode cX8_cell 37 = .ok (.aload_n 0, 1) := by decide +kernel
theorem dX8_cell_38 : decode cX8_cell 38 = .ok (.getfield 53, 3) := by decide +kernel
theorem dX8_cell_41 : decode cX8_cell 41 = .ok (.iload_n 2, 1) := by decide +kernel
theorem dX8_cell_42 : decode cX8_cell 42 = .ok (.iaload, 1) := by decide +kernel
theorem dX8_cell_43 : decode cX8_cell 43 = .ok (.istore 4, 2) := by decide +kernel
theorem dX8_cell_45 : decode cX8_cell 45 = .ok (.iconst 0, 1) := by decide +kernel
theorem dX8_cell_46 : decode cX8_cell 46 = .ok (.istore 5, 2) := by decide +kernel
theorem dX8_cell_48 : decode cX8_cell 48 = .ok (.iload 5, 2) := by decide +kernel
theorem dX8_cell_50 : decode cX8_cell 50 = .ok (.aload_n 0, 1) := by decide +kernel
theorem dX8_cell_51 : decode cX8_cell 51 = .ok (.getfield 38, 3) := by decide +kernel
theorem dX8_cell_54 : decode cX8_cell 54 = .ok (.iload 4, 2) := by decide +kernel
theorem dX8_cell_56 : decode cX8_cell 56 = .ok (.iaload, 1) := by decide +kernel
theorem dX8_cell_57 : decode cX8_cell 57 = .ok (.if_icmp .ge 60, 3) := by decide +kernel
theorem dX8_cell_60 : decode cX8_cell 60 = .ok (.aload_n 0, 1) := by decide +kernel
theorem dX8_cell_61 : decode cX8_cell 61 = .ok (.getfield 50, 3) := by decide +kernel
theorem dX8_cell_64 : decode cX8_cell 64 = .ok (.bipush 7, 2) := by decide +kernel
theorem dX8_cell_66 : decode cX8_cell 66 = .ok (.iload 4, 2) := by decide +kernel
theorem dX8_cell_68 : decode cX8_cell 68 = .ok (.imul, 1) := by decide +kernel
theorem dX8_cell_69 : decode cX8_cell 69 = .ok (.iload 5, 2) := by decide +kernel
theorem dX8_cell_71 : decode cX8_cell 71 = .ok (.iadd, 1) := by decide +kernel
theorem dX8_cell_72 : decode cX8_cell 72 = .ok (.iaload, 1) := by decide +kernel
theorem dX8_cell_73 : decode cX8_cell 73 = .ok (.iload_n 1, 1) := by decide +kernel
theorem dX8_cell_74 : decode cX8_cell 74 = .ok (.if_icmp .ne 37, 3) := by decide +kernel
theorem dX8_cell_77 : decode cX8_cell 77 = .ok (.iload_n 3, 1) := by decide +kernel
theorem dX8_cell_78 : decode cX8_cell 78 = .ok (.ifCond .ne 19, 3) := by decide +kernel
theorem dX8_cell_81 : decode cX8_cell 81 = .ok (.aload_n 0, 1) := by decide +kernel
theorem dX8_cell_82 : decode cX8_cell 82 = .ok (.getfield 44, 3) := by decide +kernel
theorem dX8_cell_85 : decode cX8_cell 85 = .ok (.bipush 7, 2) := by decide +kernel
theorem dX8_cell_87 : decode cX8_cell 87 = .ok (.iload 4, 2) := by decide +kernel
theorem dX8_cell_89 : decode cX8_cell 89 = .ok (.imul, 1) := by decide +kernel
theorem dX8_cell_90 : decode cX8_cell 90 = .ok (.iload 5, 2) := by decide +kernel
theorem dX8_cell_92 : decode cX8_cell 92 = .ok (.iadd, 1) := by decide +kernel
theorem dX8_cell_93 : decode cX8_cell 93 = .ok (.iaload, 1) := by decide +kernel
theorem dX8_cell_94 : decode cX8_cell 94 = .ok (.goto 16, 3) := by decide +kernel
theorem dX8_cell_97 : decode cX8_cell 97 = .ok (.aload_n 0, 1) := by decide +kernel
theorem dX8_cell_98 : decode cX8_cell 98 = .ok (.getfield 47, 3) := by decide +kernel
theorem dX8_cell_101 : decode cX8_cell 101 = .ok (.bipush 7, 2) := by decide +kernel
theorem dX8_cell_103 : decode cX8_cell 103 = .ok (.iload 4, 2) := by decide +kernel
theorem dX8_cell_105 : decode cX8_cell 105 = .ok (.imul, 1) := by decide +kernel
theorem dX8_cell_106 : decode cX8_cell 106 = .ok (.iload 5, 2) := by decide +kernel
theorem dX8_cell_108 : decode cX8_cell 108 = .ok (.iadd, 1) := by decide +kernel
theorem dX8_cell_109 : decode cX8_cell 109 = .ok (.iaload, 1) := by decide +kernel
theorem dX8_cell_110 : decode cX8_cell 110 = .ok (.ireturn, 1) := by decide +kernel
theorem dX8_cell_111 : decode cX8_cell 111 = .ok (.iinc 5 1, 3) := by decide +kernel
theorem dX8_cell_114 : decode cX8_cell 114 = .ok (.goto (-66), 3) := by decide +kernel
theorem dX8_cell_117 : decode cX8_cell 117 = .ok (.iload_n 1, 1) := by decide +kernel
theorem dX8_cell_118 : decode cX8_cell 118 = .ok (.aload_n 0, 1) := by decide +kernel
theorem dX8_cell_119 : decode cX8_cell 119 = .ok (.iload 4, 2) := by decide +kernel
theorem dX8_cell_121 : decode cX8_cell 121 = .ok (.invokevirtual 158, 3) := by decide +kernel
theorem dX8_cell_124 : decode cX8_cell 124 = .ok (.if_icmp .le 18, 3) := by decide +kernel
theorem dX8_cell_127 : decode cX8_cell 127 = .ok (.iload_n 1, 1) := by decide +kernel
theorem dX8_cell_128 : decode cX8_cell 128 = .ok (.aload_n 0, 1) := by decide +kernel
theorem dX8_cell_129 : decode cX8_cell 129 = .ok (.iload 4, 2) := by decide +kernel
theorem dX8_cell_131 : decode cX8_cell 131 = .ok (.invokevirtual 164, 3) := by decide +kernel
theorem dX8_cell_134 : decode cX8_cell 134 = .ok (.if_icmp .ge 8, 3) := by decide +kernel
theorem dX8_cell_137 : decode cX8_cell 137 = .ok (.bipush (-2), 2) := by decide +kernel
theorem dX8_cell_139 : decode cX8_cell 139 = .ok (.goto 4, 3) := by decide +kernel
theorem dX8_cell_142 : decode cX8_cell 142 = .ok (.iconst (-1), 1) := by decide +kernel
theorem dX8_cell_143 : decode cX8_cell 143 = .ok (.ireturn, 1) := by decide +kernel
theorem dX8_breaches_0 : decode cX8_breaches 0 = .ok (.aload_n 0, 1) := by decide +kernel
theorem dX8_breaches_1 : decode cX8_breaches 1 = .ok (.iconst 0, 1) := by decide +kernel
theorem dX8_breaches_2 : decode cX8_breaches 2 = .ok (.putfield 94, 3) := by decide +kernel
theorem dX8_breaches_5 : decode cX8_breaches 5 = .ok (.aload_n 0, 1) := by decide +kernel
theorem dX8_breaches_6 : decode cX8_breaches 6 = .ok (.getfield 120, 3) := by decide +kernel
theorem dX8_breaches_9 : decode cX8_breaches 9 = .ok (.ifCond .eq 12, 3) := by decide +kernel
theorem dX8_breaches_12 : decode cX8_breaches 12 = .ok (.iload_n 1, 1) := by decide +kernel
theorem dX8_breaches_13 : decode cX8_breaches 13 = .ok (.ifCond .lt 8, 3) := by decide +kernel
theorem dX8_breaches_16 : decode cX8_breaches 16 = .ok (.iload_n 1, 1) := by decide +kernel
theorem dX8_breaches_17 : decode cX8_breaches 17 = .ok (.iconst 1, 1) := by decide +kernel
theorem dX8_breaches_18 : decode cX8_breaches 18 = .ok (.if_icmp .le 5, 3) := by decide +kernel
theorem dX8_breaches_21 : decode cX8_breaches 21 = .ok (.iconst (-1), 1) := by decide +kernel
theorem dX8_breaches_22 : decode cX8_breaches 22 = .ok (.ireturn, 1) := by decide +kernel
theorem dX8_breaches_23 : decode cX8_breaches 23 = .ok (.iload_n 1, 1) := by decide +kernel
theorem dX8_breaches_24 : decode cX8_breaches 24 = .ok (.ifCond .ne 12, 3) := by decide +kernel
theorem dX8_breaches_27 : decode cX8_breaches 27 = .ok (.aload_n 0, 1) := by decide +kernel
theorem dX8_breaches_28 : decode cX8_breaches 28 = .ok (.aload_n 0, 1) := by decide +kernel
theorem dX8_breaches_29 : decode cX8_breaches 29 = .ok (.getfield 53, 3) := by decide +kernel
theorem dX8_breaches_32 : decode cX8_breaches 32 = .ok (.invokevirtual 147, 3) := by decide +kernel
theorem dX8_breaches_35 : decode cX8_breaches 35 = .ok (.ireturn, 1) := by decide +kernel
theorem dX8_breaches_36 : decode cX8_breaches 36 = .ok (.iconst 0, 1) := by decide +kernel
theorem dX8_breaches_37 : decode cX8_breaches 37 = .ok (.istore_n 2, 1) := by decide +kernel
theorem dX8_breaches_38 : decode cX8_breaches 38 = .ok (.iconst 0, 1) := by decide +kernel
theorem dX8_breaches_39 : decode cX8_breaches 39 = .ok (.istore_n 3, 1) := by decide +kernel
theorem dX8_breaches_40 : decode cX8_breaches 40 = .ok (.iload_n 3, 1) := by decide +kernel
theorem dX8_breaches_41 : decode cX8_breaches 41 = .ok (.aload_n 0, 1) := by decide +kernel
theorem dX8_breaches_42 : decode cX8_breaches 42 = .ok (.getfield 120, 3) := by decide +kernel
theorem dX8_breaches_45 : decode cX8_breaches 45 = .ok (.if_icmp .ge 53, 3) := by decide +kernel
theorem dX8_breaches_48 : decode cX8_breaches 48 = .ok (.iload_n 3, 1) := by decide +kernel
theorem dX8_breaches_49 : decode cX8_breaches 49 = .ok (.iconst 1, 1) := by decide +kernel
theorem dX8_breaches_50 : decode cX8_breaches 50 = .ok (.iadd, 1) := by decide +kernel
theorem dX8_breaches_51 : decode cX8_breaches 51 = .ok (.istore 4, 2) := by decide +kernel
theorem dX8_breaches_53 : decode cX8_breaches 53 = .ok (.iload 4, 2) := by decide +kernel
theorem dX8_breaches_55 : decode cX8_breaches 55 = .ok (.aload_n 0, 1) := by decide +kernel
theorem dX8_breaches_56 : decode cX8_breaches 56 = .ok (.getfield 120, 3) := by decide +kernel
theorem dX8_breaches_59 : decode cX8_breaches 59 = .ok (.if_icmp .ge 33, 3) := by decide +kernel
theorem dX8_breaches_62 : decode cX8_breaches 62 = .ok (.aload_n 0, 1) := by decide +kernel
theorem dX8_breaches_63 : decode cX8_breaches 63 = .ok (.iload_n 3, 1) := by decide +kernel
theorem dX8_breaches_64 : decode cX8_breaches 64 = .ok (.iload 4, 2) := by decide +kernel
theorem dX8_breaches_66 : decode cX8_breaches 66 = .ok (.invokevirtual 139, 3) := by decide +kernel
theorem dX8_breaches_69 : decode cX8_breaches 69 = .ok (.ifCond .eq 17, 3) := by decide +kernel
theorem dX8_breaches_72 : decode cX8_breaches 72 = .ok (.aload_n 0, 1) := by decide +kernel
theorem dX8_breaches_73 : decode cX8_breaches 73 = .ok (.iload 4, 2) := by decide +kernel
theorem dX8_breaches_75 : decode cX8_breaches 75 = .ok (.iload_n 3, 1) := by decide +kernel
theorem dX8_breaches_76 : decode cX8_breaches 76 = .ok (.invokevirtual 139, 3) := by decide +kernel
theorem dX8_breaches_79 : decode cX8_breaches 79 = .ok (.ifCond .eq 7, 3) := by decide +kernel
theorem dX8_breaches_82 : decode cX8_breaches 82 = .ok (.iload_n 2, 1) := by decide +kernel
theorem dX8_breaches_83 : decode cX8_breaches 83 = .ok (.iconst 1, 1) := by decide +kernel
theorem dX8_breaches_84 : decode cX8_breaches 84 = .ok (.iadd, 1) := by decide +kernel
theorem dX8_breaches_85 : decode cX8_breaches 85 = .ok (.istore_n 2, 1) := by decide +kernel
theorem dX8_breaches_86 : decode cX8_breaches 86 = .ok (.iinc 4 1, 3) := by decide +kernel
theorem dX8_breaches_89 : decode cX8_breaches 89 = .ok (.goto (-36), 3) := by decide +kernel
theorem dX8_breaches_92 : decode cX8_breaches 92 = .ok (.iinc 3 1, 3) := by decide +kernel
theorem dX8_breaches_95 : decode cX8_breaches 95 = .ok (.goto (-55), 3) := by decide +kernel
theorem dX8_breaches_98 : decode cX8_breaches 98 = .ok (.iload_n 2, 1) := by decide +kernel
theorem dX8_breaches_99 : decode cX8_breaches 99 = .ok (.ireturn, 1) := by decide +kernel
theorem dX8_breach_0 : decode cX8_breach 0 = .ok (.aload_n 0, 1) := by decide +kernel
theorem dX8_breach_1 : decode cX8_breach 1 = .ok (.iconst 0, 1) := by decide +kernel
theorem dX8_breach_2 : decode cX8_breach 2 = .ok (.putfield 94, 3) := by decide +kernel
theorem dX8_breach_5 : decode cX8_breach 5 = .ok (.aload_n 0, 1) := by decide +kernel
theorem dX8_breach_6 : decode cX8_breach 6 = .ok (.iload_n 1, 1) := by decide +kernel
theorem dX8_breach_7 : decode cX8_breach 7 = .ok (.invokevirtual 176, 3) := by decide +kernel
theorem dX8_breach_10 : decode cX8_breach 10 = .ok (.ifCond .eq 16, 3) := by decide +kernel
theorem dX8_breach_13 : decode cX8_breach 13 = .ok (.aload_n 0, 1) := by decide +kernel
theorem dX8_breach_14 : decode cX8_breach 14 = .ok (.iload_n 2, 1) := by decide +kernel
theorem dX8_breach_15 : decode cX8_breach 15 = .ok (.invokevirtual 176, 3) := by decide +kernel
theorem dX8_breach_18 : decode cX8_breach 18 = .ok (.ifCond .eq 8, 3) := by decide +kernel
theorem dX8_breach_21 : decode cX8_breach 21 = .ok (.iload_n 1, 1) := by decide +kernel
theorem dX8_breach_22 : decode cX8_breach 22 = .ok (.iload_n 2, 1) := by decide +kernel
theorem dX8_breach_23 : decode cX8_breach 23 = .ok (.if_icmp .lt 7, 3) := by decide +kernel
theorem dX8_breach_26 : decode cX8_breach 26 = .ok (.iconst (-1), 1) := by decide +kernel
theorem dX8_breach_27 : decode cX8_breach 27 = .ok (.goto 27, 3) := by decide +kernel
theorem dX8_breach_30 : decode cX8_breach 30 = .ok (.aload_n 0, 1) := by decide +kernel
theorem dX8_breach_31 : decode cX8_breach 31 = .ok (.aload_n 0, 1) := by decide +kernel
theorem dX8_breach_32 : decode cX8_breach 32 = .ok (.getfield 53, 3) := by decide +kernel
theorem dX8_breach_35 : decode cX8_breach 35 = .ok (.iload_n 1, 1) := by decide +kernel
theorem dX8_breach_36 : decode cX8_breach 36 = .ok (.iaload, 1) := by decide +kernel
theorem dX8_breach_37 : decode cX8_breach 37 = .ok (.aload_n 0, 1) := by decide +kernel
theorem dX8_breach_38 : decode cX8_breach 38 = .ok (.getfield 53, 3) := by decide +kernel
theorem dX8_breach_41 : decode cX8_breach 41 = .ok (.iload_n 2, 1) := by decide +kernel
theorem dX8_breach_42 : decode cX8_breach 42 = .ok (.iaload, 1) := by decide +kernel
theorem dX8_breach_43 : decode cX8_breach 43 = .ok (.invokevirtual 139, 3) := by decide +kernel
theorem dX8_breach_46 : decode cX8_breach 46 = .ok (.ifCond .eq 7, 3) := by decide +kernel
theorem dX8_breach_49 : decode cX8_breach 49 = .ok (.iconst 1, 1) := by decide +kernel
theorem dX8_breach_50 : decode cX8_breach 50 = .ok (.goto 4, 3) := by decide +kernel
theorem dX8_breach_53 : decode cX8_breach 53 = .ok (.iconst 0, 1) := by decide +kernel
theorem dX8_breach_54 : decode cX8_breach 54 = .ok (.ireturn, 1) := by decide +kernel
theorem dX8_lanes_0 : decode cX8_lanes 0 = .ok (.aload_n 0, 1) := by decide +kernel
theorem dX8_lanes_1 : decode cX8_lanes 1 = .ok (.iconst 0, 1) := by decide +kernel
theorem dX8_lanes_2 : decode cX8_lanes 2 = .ok (.putfield 94, 3) := by decide +kernel
theorem dX8_lanes_5 : decode cX8_lanes 5 = .ok (.aload_n 0, 1) := by decide +kernel
theorem dX8_lanes_6 : decode cX8_lanes 6 = .ok (.getfield 120, 3) := by decide +kernel
theorem dX8_lanes_9 : decode cX8_lanes 9 = .ok (.ifCond .ne 7, 3) := by decide +kernel
theorem dX8_lanes_12 : decode cX8_lanes 12 = .ok (.iconst (-1), 1) := by decide +kernel
theorem dX8_lanes_13 : decode cX8_lanes 13 = .ok (.goto 7, 3) := by decide +kernel
theorem dX8_lanes_16 : decode cX8_lanes 16 = .ok (.aload_n 0, 1) := by decide +kernel
theorem dX8_lanes_17 : decode cX8_lanes 17 = .ok (.getfield 155, 3) := by decide +kernel
theorem dX8_lanes_20 : decode cX8_lanes 20 = .ok (.ireturn, 1) := by decide +kernel
theorem dX8_lane_0 : decode cX8_lane 0 = .ok (.aload_n 0, 1) := by decide +kernel
theorem dX8_lane_1 : decode cX8_lane 1 = .ok (.iconst 0, 1) := by decide +kernel
theorem dX8_lane_2 : decode cX8_lane 2 = .ok (.putfield 94, 3) := by decide +kernel
theorem dX8_lane_5 : decode cX8_lane 5 = .ok (.aload_n 0, 1) := by decide +kernel
theorem dX8_lane_6 : decode cX8_lane 6 = .ok (.iload_n 1, 1) := by decide +kernel
theorem dX8_lane_7 : decode cX8_lane 7 = .ok (.invokevirtual 176, 3) := by decide +kernel
theorem dX8_lane_10 : decode cX8_lane 10 = .ok (.ifCond .eq 17, 3) := by decide +kernel
theorem dX8_lane_13 : decode cX8_lane 13 = .ok (.aload_n 0, 1) := by decide +kernel
theorem dX8_lane_14 : decode cX8_lane 14 = .ok (.getfield 56, 3) := by decide +kernel
theorem dX8_lane_17 : decode cX8_lane 17 = .ok (.aload_n 0, 1) := by decide +kernel
theorem dX8_lane_18 : decode cX8_lane 18 = .ok (.getfield 53, 3) := by decide +kernel
theorem dX8_lane_21 : decode cX8_lane 21 = .ok (.iload_n 1, 1) := by decide +kernel
theorem dX8_lane_22 : decode cX8_lane 22 = .ok (.iaload, 1) := by decide +kernel
theorem dX8_lane_23 : decode cX8_lane 23 = .ok (.iaload, 1) := by decide +kernel
theorem dX8_lane_24 : decode cX8_lane 24 = .ok (.goto 4, 3) := by decide +kernel
theorem dX8_lane_27 : decode cX8_lane 27 = .ok (.iconst (-1), 1) := by decide +kernel
theorem dX8_lane_28 : decode cX8_lane 28 = .ok (.ireturn, 1) := by decide +kernel
theorem dX8_runs_0 : decode cX8_runs 0 = .ok (.aload_n 0, 1) := by decide +kernel
theorem dX8_runs_1 : decode cX8_runs 1 = .ok (.getfield 13, 3) := by decide +kernel
theorem dX8_runs_4 : decode cX8_runs 4 = .ok (.iload_n 1, 1) := by decide +kernel
theorem dX8_runs_5 : decode cX8_runs 5 = .ok (.iaload, 1) := by decide +kernel
theorem dX8_runs_6 : decode cX8_runs 6 = .ok (.iload_n 2, 1) := by decide +kernel
theorem dX8_runs_7 : decode cX8_runs 7 = .ok (.ishr, 1) := by decide +kernel
theorem dX8_runs_8 : decode cX8_runs 8 = .ok (.iconst 1, 1) := by decide +kernel
theorem dX8_runs_9 : decode cX8_runs 9 = .ok (.iand, 1) := by decide +kernel
theorem dX8_runs_10 : decode cX8_runs 10 = .ok (.iconst 1, 1) := by decide +kernel
theorem dX8_runs_11 : decode cX8_runs 11 = .ok (.if_icmp .ne 7, 3) := by decide +kernel
theorem dX8_runs_14 : decode cX8_runs 14 = .ok (.iconst 1, 1) := by decide +kernel
theorem dX8_runs_15 : decode cX8_runs 15 = .ok (.goto 4, 3) := by decide +kernel
theorem dX8_runs_18 : decode cX8_runs 18 = .ok (.iconst 0, 1) := by decide +kernel
theorem dX8_runs_19 : decode cX8_runs 19 = .ok (.ireturn, 1) := by decide +kernel
theorem dX8_canChange_0 : decode cX8_canChange 0 = .ok (.aload_n 0, 1) := by decide +kernel
theorem dX8_canChange_1 : decode cX8_canChange 1 = .ok (.getfield 20, 3) := by decide +kernel
theorem dX8_canChange_4 : decode cX8_canChange 4 = .ok (.iload_n 1, 1) := by decide +kernel
theorem dX8_canChange_5 : decode cX8_canChange 5 = .ok (.iaload, 1) := by decide +kernel
theorem dX8_canChange_6 : decode cX8_canChange 6 = .ok (.aload_n 0, 1) := by decide +kernel
theorem dX8_canChange_7 : decode cX8_canChange 7 = .ok (.getfield 20, 3) := by decide +kernel
theorem dX8_canChange_10 : decode cX8_canChange 10 = .ok (.iload_n 2, 1) := by decide +kernel
theorem dX8_canChange_11 : decode cX8_canChange 11 = .ok (.iaload, 1) := by decide +kernel
theorem dX8_canChange_12 : decode cX8_canChange 12 = .ok (.if_icmp .ne 27, 3) := by decide +kernel
theorem dX8_canChange_15 : decode cX8_canChange 15 = .ok (.aload_n 0, 1) := by decide +kernel
theorem dX8_canChange_16 : decode cX8_canChange 16 = .ok (.getfield 23, 3) := by decide +kernel
theorem dX8_canChange_19 : decode cX8_canChange 19 = .ok (.iload_n 1, 1) := by decide +kernel
theorem dX8_canChange_20 : decode cX8_canChange 20 = .ok (.iaload, 1) := by decide +kernel
theorem dX8_canChange_21 : decode cX8_canChange 21 = .ok (.aload_n 0, 1) := by decide +kernel
theorem dX8_canChange_22 : decode cX8_canChange 22 = .ok (.getfield 7, 3) := by decide +kernel
theorem dX8_canChange_25 : decode cX8_canChange 25 = .ok (.iadd, 1) := by decide +kernel
theorem dX8_canChange_26 : decode cX8_canChange 26 = .ok (.aload_n 0, 1) := by decide +kernel
theorem dX8_canChange_27 : decode cX8_canChange 27 = .ok (.getfield 26, 3) := by decide +kernel
theorem dX8_canChange_30 : decode cX8_canChange 30 = .ok (.iload_n 2, 1) := by decide +kernel
theorem dX8_canChange_31 : decode cX8_canChange 31 = .ok (.iaload, 1) := by decide +kernel
theorem dX8_canChange_32 : decode cX8_canChange 32 = .ok (.if_icmp .gt 7, 3) := by decide +kernel
theorem dX8_canChange_35 : decode cX8_canChange 35 = .ok (.iconst 1, 1) := by decide +kernel
theorem dX8_canChange_36 : decode cX8_canChange 36 = .ok (.goto 4, 3) := by decide +kernel
theorem dX8_canChange_39 : decode cX8_canChange 39 = .ok (.iconst 0, 1) := by decide +kernel
theorem dX8_canChange_40 : decode cX8_canChange 40 = .ok (.ireturn, 1) := by decide +kernel
theorem dX8_isBoarded_0 : decode cX8_isBoarded 0 = .ok (.aload_n 0, 1) := by decide +kernel
theorem dX8_isBoarded_1 : decode cX8_isBoarded 1 = .ok (.getfield 20, 3) := by decide +kernel
theorem dX8_isBoarded_4 : decode cX8_isBoarded 4 = .ok (.iload_n 1, 1) := by decide +kernel
theorem dX8_isBoarded_5 : decode cX8_isBoarded 5 = .ok (.iaload, 1) := by decide +kernel
theorem dX8_isBoarded_6 : decode cX8_isBoarded 6 = .ok (.iload_n 2, 1) := by decide +kernel
theorem dX8_isBoarded_7 : decode cX8_isBoarded 7 = .ok (.if_icmp .ne 15, 3) := by decide +kernel
theorem dX8_isBoarded_10 : decode cX8_isBoarded 10 = .ok (.aload_n 0, 1) := by decide +kernel
theorem dX8_isBoarded_11 : decode cX8_isBoarded 11 = .ok (.getfield 26, 3) := by decide +kernel
theorem dX8_isBoarded_14 : decode cX8_isBoarded 14 = .ok (.iload_n 1, 1) := by decide +kernel
theorem dX8_isBoarded_15 : decode cX8_isBoarded 15 = .ok (.iaload, 1) := by decide +kernel
theorem dX8_isBoarded_16 : decode cX8_isBoarded 16 = .ok (.iload_n 3, 1) := by decide +kernel
theorem dX8_isBoarded_17 : decode cX8_isBoarded 17 = .ok (.if_icmp .lt 5, 3) := by decide +kernel
theorem dX8_isBoarded_20 : decode cX8_isBoarded 20 = .ok (.iconst 1, 1) := by decide +kernel
theorem dX8_isBoarded_21 : decode cX8_isBoarded 21 = .ok (.ireturn, 1) := by decide +kernel
theorem dX8_isBoarded_22 : decode cX8_isBoarded 22 = .ok (.iconst 0, 1) := by decide +kernel
theorem dX8_isBoarded_23 : decode cX8_isBoarded 23 = .ok (.istore 5, 2) := by decide +kernel
theorem dX8_isBoarded_25 : decode cX8_isBoarded 25 = .ok (.iload 5, 2) := by decide +kernel
theorem dX8_isBoarded_27 : decode cX8_isBoarded 27 = .ok (.aload_n 0, 1) := by decide +kernel
theorem dX8_isBoarded_28 : decode cX8_isBoarded 28 = .ok (.getfield 97, 3) := by decide +kernel
theorem dX8_isBoarded_31 : decode cX8_isBoarded 31 = .ok (.if_icmp .ge 75, 3) := by decide +kernel
theorem dX8_isBoarded_34 : decode cX8_isBoarded 34 = .ok (.aload_n 0, 1) := by decide +kernel
theorem dX8_isBoarded_35 : decode cX8_isBoarded 35 = .ok (.iload 5, 2) := by decide +kernel
theorem dX8_isBoarded_37 : decode cX8_isBoarded 37 = .ok (.iload 4, 2) := by decide +kernel
theorem dX8_isBoarded_39 : decode cX8_isBoarded 39 = .ok (.invokevirtual 179, 3) := by decide +kernel
theorem dX8_isBoarded_42 : decode cX8_isBoarded 42 = .ok (.ifCond .eq 58, 3) := by decide +kernel
theorem dX8_isBoarded_45 : decode cX8_isBoarded 45 = .ok (.iconst 1, 1) := by decide +kernel
theorem dX8_isBoarded_46 : decode cX8_isBoarded 46 = .ok (.istore 6, 2) := by decide +kernel
theorem dX8_isBoarded_48 : decode cX8_isBoarded 48 = .ok (.iload 6, 2) := by decide +kernel
theorem dX8_isBoarded_50 : decode cX8_isBoarded 50 = .ok (.aload_n 0, 1) := by decide +kernel
theorem dX8_isBoarded_51 : decode cX8_isBoarded 51 = .ok (.getfield 17, 3) := by decide +kernel
theorem dX8_isBoarded_54 : decode cX8_isBoarded 54 = .ok (.iload 5, 2) := by decide +kernel
theorem dX8_isBoarded_56 : decode cX8_isBoarded 56 = .ok (.iaload, 1) := by decide +kernel
theorem dX8_isBoarded_57 : decode cX8_isBoarded 57 = .ok (.if_icmp .ge 43, 3) := by decide +kernel
theorem dX8_isBoarded_60 : decode cX8_isBoarded 60 = .ok (.aload_n 0, 1) := by decide +kernel
theorem dX8_isBoarded_61 : decode cX8_isBoarded 61 = .ok (.getfield 66, 3) := by decide +kernel
theorem dX8_isBoarded_64 : decode cX8_isBoarded 64 = .ok (.bipush 7, 2) := by decide +kernel
theorem dX8_isBoarded_66 : decode cX8_isBoarded 66 = .ok (.iload 5, 2) := by decide +kernel
theorem dX8_isBoarded_68 : decode cX8_isBoarded 68 = .ok (.imul, 1) := by decide +kernel
theorem dX8_isBoarded_69 : decode cX8_isBoarded 69 = .ok (.iload 6, 2) := by decide +kernel
theorem dX8_isBoarded_71 : decode cX8_isBoarded 71 = .ok (.iadd, 1) := by decide +kernel
theorem dX8_isBoarded_72 : decode cX8_isBoarded 72 = .ok (.baload, 1) := by decide +kernel
theorem dX8_isBoarded_73 : decode cX8_isBoarded 73 = .ok (.ifCond .eq 21, 3) := by decide +kernel
theorem dX8_isBoarded_76 : decode cX8_isBoarded 76 = .ok (.aload_n 0, 1) := by decide +kernel
theorem dX8_isBoarded_77 : decode cX8_isBoarded 77 = .ok (.bipush 7, 2) := by decide +kernel
theorem dX8_isBoarded_79 : decode cX8_isBoarded 79 = .ok (.iload 5, 2) := by decide +kernel
theorem dX8_isBoarded_81 : decode cX8_isBoarded 81 = .ok (.imul, 1) := by decide +kernel
theorem dX8_isBoarded_82 : decode cX8_isBoarded 82 = .ok (.iload 6, 2) := by decide +kernel
theorem dX8_isBoarded_84 : decode cX8_isBoarded 84 = .ok (.iadd, 1) := by decide +kernel
theorem dX8_isBoarded_85 : decode cX8_isBoarded 85 = .ok (.iload_n 1, 1) := by decide +kernel
