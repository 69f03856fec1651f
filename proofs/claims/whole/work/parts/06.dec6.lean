theorem dX8_isBoarded_86 : decode cX8_isBoarded 86 = .ok (.invokevirtual 182, 3) := by decide +kernel
theorem dX8_isBoarded_89 : decode cX8_isBoarded 89 = .ok (.ifCond .eq 5, 3) := by decide +kernel
theorem dX8_isBoarded_92 : decode cX8_isBoarded 92 = .ok (.iconst 1, 1) := by decide +kernel
theorem dX8_isBoarded_93 : decode cX8_isBoarded 93 = .ok (.ireturn, 1) := by decide +kernel
theorem dX8_isBoarded_94 : decode cX8_isBoarded 94 = .ok (.iinc 6 1, 3) := by decide +kernel
theorem dX8_isBoarded_97 : decode cX8_isBoarded 97 = .ok (.goto (-49), 3) := by decide +kernel
theorem dX8_isBoarded_100 : decode cX8_isBoarded 100 = .ok (.iinc 5 1, 3) := by decide +kernel
theorem dX8_isBoarded_103 : decode cX8_isBoarded 103 = .ok (.goto (-78), 3) := by decide +kernel
theorem dX8_isBoarded_106 : decode cX8_isBoarded 106 = .ok (.iconst 0, 1) := by decide +kernel
theorem dX8_isBoarded_107 : decode cX8_isBoarded 107 = .ok (.ireturn, 1) := by decide +kernel
theorem dX8_soonest_0 : decode cX8_soonest 0 = .ok (.iconst 0, 1) := by decide +kernel
theorem dX8_soonest_1 : decode cX8_soonest 1 = .ok (.istore 5, 2) := by decide +kernel
theorem dX8_soonest_3 : decode cX8_soonest 3 = .ok (.iload 5, 2) := by decide +kernel
theorem dX8_soonest_5 : decode cX8_soonest 5 = .ok (.bipush 70, 2) := by decide +kernel
theorem dX8_soonest_7 : decode cX8_soonest 7 = .ok (.if_icmp .ge 17, 3) := by decide +kernel
theorem dX8_soonest_10 : decode cX8_soonest 10 = .ok (.aload_n 0, 1) := by decide +kernel
theorem dX8_soonest_11 : decode cX8_soonest 11 = .ok (.getfield 66, 3) := by decide +kernel
theorem dX8_soonest_14 : decode cX8_soonest 14 = .ok (.iload 5, 2) := by decide +kernel
theorem dX8_soonest_16 : decode cX8_soonest 16 = .ok (.iconst 0, 1) := by decide +kernel
theorem dX8_soonest_17 : decode cX8_soonest 17 = .ok (.bastore, 1) := by decide +kernel
theorem dX8_soonest_18 : decode cX8_soonest 18 = .ok (.iinc 5 1, 3) := by decide +kernel
theorem dX8_soonest_21 : decode cX8_soonest 21 = .ok (.goto (-18), 3) := by decide +kernel
theorem dX8_soonest_24 : decode cX8_soonest 24 = .ok (.iconst 1, 1) := by decide +kernel
theorem dX8_soonest_25 : decode cX8_soonest 25 = .ok (.istore 5, 2) := by decide +kernel
theorem dX8_soonest_27 : decode cX8_soonest 27 = .ok (.iload 5, 2) := by decide +kernel
theorem dX8_soonest_29 : decode cX8_soonest 29 = .ok (.ifCond .eq 122, 3) := by decide +kernel
theorem dX8_soonest_32 : decode cX8_soonest 32 = .ok (.iconst 0, 1) := by decide +kernel
theorem dX8_soonest_33 : decode cX8_soonest 33 = .ok (.istore 5, 2) := by decide +kernel
theorem dX8_soonest_35 : decode cX8_soonest 35 = .ok (.iconst 0, 1) := by decide +kernel
theorem dX8_soonest_36 : decode cX8_soonest 36 = .ok (.istore 6, 2) := by decide +kernel
theorem dX8_soonest_38 : decode cX8_soonest 38 = .ok (.iload 6, 2) := by decide +kernel
theorem dX8_soonest_40 : decode cX8_soonest 40 = .ok (.aload_n 0, 1) := by decide +kernel
theorem dX8_soonest_41 : decode cX8_soonest 41 = .ok (.getfield 97, 3) := by decide +kernel
theorem dX8_soonest_44 : decode cX8_soonest 44 = .ok (.if_icmp .ge 104, 3) := by decide +kernel
theorem dX8_soonest_47 : decode cX8_soonest 47 = .ok (.iconst 0, 1) := by decide +kernel
theorem dX8_soonest_48 : decode cX8_soonest 48 = .ok (.istore 7, 2) := by decide +kernel
theorem dX8_soonest_50 : decode cX8_soonest 50 = .ok (.iconst 0, 1) := by decide +kernel
theorem dX8_soonest_51 : decode cX8_soonest 51 = .ok (.istore 8, 2) := by decide +kernel
theorem dX8_soonest_53 : decode cX8_soonest 53 = .ok (.iload 8, 2) := by decide +kernel
theorem dX8_soonest_55 : decode cX8_soonest 55 = .ok (.aload_n 0, 1) := by decide +kernel
theorem dX8_soonest_56 : decode cX8_soonest 56 = .ok (.getfield 17, 3) := by decide +kernel
theorem dX8_soonest_59 : decode cX8_soonest 59 = .ok (.iload 6, 2) := by decide +kernel
theorem dX8_soonest_61 : decode cX8_soonest 61 = .ok (.iaload, 1) := by decide +kernel
theorem dX8_soonest_62 : decode cX8_soonest 62 = .ok (.if_icmp .ge 80, 3) := by decide +kernel
theorem dX8_soonest_65 : decode cX8_soonest 65 = .ok (.aload_n 0, 1) := by decide +kernel
theorem dX8_soonest_66 : decode cX8_soonest 66 = .ok (.iload 6, 2) := by decide +kernel
theorem dX8_soonest_68 : decode cX8_soonest 68 = .ok (.iload_n 3, 1) := by decide +kernel
theorem dX8_soonest_69 : decode cX8_soonest 69 = .ok (.invokevirtual 179, 3) := by decide +kernel
theorem dX8_soonest_72 : decode cX8_soonest 72 = .ok (.ifCond .eq 70, 3) := by decide +kernel
theorem dX8_soonest_75 : decode cX8_soonest 75 = .ok (.bipush 7, 2) := by decide +kernel
theorem dX8_soonest_77 : decode cX8_soonest 77 = .ok (.iload 6, 2) := by decide +kernel
theorem dX8_soonest_79 : decode cX8_soonest 79 = .ok (.imul, 1) := by decide +kernel
theorem dX8_soonest_80 : decode cX8_soonest 80 = .ok (.iload 8, 2) := by decide +kernel
theorem dX8_soonest_82 : decode cX8_soonest 82 = .ok (.iadd, 1) := by decide +kernel
theorem dX8_soonest_83 : decode cX8_soonest 83 = .ok (.istore 9, 2) := by decide +kernel
theorem dX8_soonest_85 : decode cX8_soonest 85 = .ok (.iload 7, 2) := by decide +kernel
theorem dX8_soonest_87 : decode cX8_soonest 87 = .ok (.ifCond .eq 24, 3) := by decide +kernel
theorem dX8_soonest_90 : decode cX8_soonest 90 = .ok (.aload_n 0, 1) := by decide +kernel
theorem dX8_soonest_91 : decode cX8_soonest 91 = .ok (.getfield 66, 3) := by decide +kernel
theorem dX8_soonest_94 : decode cX8_soonest 94 = .ok (.iload 9, 2) := by decide +kernel
theorem dX8_soonest_96 : decode cX8_soonest 96 = .ok (.baload, 1) := by decide +kernel
theorem dX8_soonest_97 : decode cX8_soonest 97 = .ok (.ifCond .ne 14, 3) := by decide +kernel
theorem dX8_soonest_100 : decode cX8_soonest 100 = .ok (.aload_n 0, 1) := by decide +kernel
theorem dX8_soonest_101 : decode cX8_soonest 101 = .ok (.getfield 66, 3) := by decide +kernel
theorem dX8_soonest_104 : decode cX8_soonest 104 = .ok (.iload 9, 2) := by decide +kernel
theorem dX8_soonest_106 : decode cX8_soonest 106 = .ok (.iconst 1, 1) := by decide +kernel
theorem dX8_soonest_107 : decode cX8_soonest 107 = .ok (.bastore, 1) := by decide +kernel
theorem dX8_soonest_108 : decode cX8_soonest 108 = .ok (.iconst 1, 1) := by decide +kernel
theorem dX8_soonest_109 : decode cX8_soonest 109 = .ok (.istore 5, 2) := by decide +kernel
theorem dX8_soonest_111 : decode cX8_soonest 111 = .ok (.iload 7, 2) := by decide +kernel
theorem dX8_soonest_113 : decode cX8_soonest 113 = .ok (.ifCond .ne 16, 3) := by decide +kernel
theorem dX8_soonest_116 : decode cX8_soonest 116 = .ok (.aload_n 0, 1) := by decide +kernel
theorem dX8_soonest_117 : decode cX8_soonest 117 = .ok (.iload 9, 2) := by decide +kernel
theorem dX8_soonest_119 : decode cX8_soonest 119 = .ok (.iload_n 1, 1) := by decide +kernel
theorem dX8_soonest_120 : decode cX8_soonest 120 = .ok (.iload 4, 2) := by decide +kernel
theorem dX8_soonest_122 : decode cX8_soonest 122 = .ok (.iload_n 3, 1) := by decide +kernel
theorem dX8_soonest_123 : decode cX8_soonest 123 = .ok (.invokevirtual 185, 3) := by decide +kernel
theorem dX8_soonest_126 : decode cX8_soonest 126 = .ok (.ifCond .eq 7, 3) := by decide +kernel
theorem dX8_soonest_129 : decode cX8_soonest 129 = .ok (.iconst 1, 1) := by decide +kernel
theorem dX8_soonest_130 : decode cX8_soonest 130 = .ok (.goto 4, 3) := by decide +kernel
theorem dX8_soonest_133 : decode cX8_soonest 133 = .ok (.iconst 0, 1) := by decide +kernel
theorem dX8_soonest_134 : decode cX8_soonest 134 = .ok (.istore 7, 2) := by decide +kernel
theorem dX8_soonest_136 : decode cX8_soonest 136 = .ok (.iinc 8 1, 3) := by decide +kernel
theorem dX8_soonest_139 : decode cX8_soonest 139 = .ok (.goto (-86), 3) := by decide +kernel
theorem dX8_soonest_142 : decode cX8_soonest 142 = .ok (.iinc 6 1, 3) := by decide +kernel
theorem dX8_soonest_145 : decode cX8_soonest 145 = .ok (.goto (-107), 3) := by decide +kernel
theorem dX8_soonest_148 : decode cX8_soonest 148 = .ok (.goto (-121), 3) := by decide +kernel
theorem dX8_soonest_151 : decode cX8_soonest 151 = .ok (.iconst (-1), 1) := by decide +kernel
theorem dX8_soonest_152 : decode cX8_soonest 152 = .ok (.istore 6, 2) := by decide +kernel
theorem dX8_soonest_154 : decode cX8_soonest 154 = .ok (.iconst 0, 1) := by decide +kernel
theorem dX8_soonest_155 : decode cX8_soonest 155 = .ok (.istore 7, 2) := by decide +kernel
theorem dX8_soonest_157 : decode cX8_soonest 157 = .ok (.iload 7, 2) := by decide +kernel
theorem dX8_soonest_159 : decode cX8_soonest 159 = .ok (.aload_n 0, 1) := by decide +kernel
theorem dX8_soonest_160 : decode cX8_soonest 160 = .ok (.getfield 97, 3) := by decide +kernel
theorem dX8_soonest_163 : decode cX8_soonest 163 = .ok (.if_icmp .ge 102, 3) := by decide +kernel
theorem dX8_soonest_166 : decode cX8_soonest 166 = .ok (.iconst 1, 1) := by decide +kernel
theorem dX8_soonest_167 : decode cX8_soonest 167 = .ok (.istore 8, 2) := by decide +kernel
theorem dX8_soonest_169 : decode cX8_soonest 169 = .ok (.iload 8, 2) := by decide +kernel
theorem dX8_soonest_171 : decode cX8_soonest 171 = .ok (.aload_n 0, 1) := by decide +kernel
theorem dX8_soonest_172 : decode cX8_soonest 172 = .ok (.getfield 17, 3) := by decide +kernel
theorem dX8_soonest_175 : decode cX8_soonest 175 = .ok (.iload 7, 2) := by decide +kernel
theorem dX8_soonest_177 : decode cX8_soonest 177 = .ok (.iaload, 1) := by decide +kernel
theorem dX8_soonest_178 : decode cX8_soonest 178 = .ok (.if_icmp .ge 81, 3) := by decide +kernel
theorem dX8_soonest_181 : decode cX8_soonest 181 = .ok (.aload_n 0, 1) := by decide +kernel
theorem dX8_soonest_182 : decode cX8_soonest 182 = .ok (.getfield 66, 3) := by decide +kernel
theorem dX8_soonest_185 : decode cX8_soonest 185 = .ok (.bipush 7, 2) := by decide +kernel
theorem dX8_soonest_187 : decode cX8_soonest 187 = .ok (.iload 7, 2) := by decide +kernel
theorem dX8_soonest_189 : decode cX8_soonest 189 = .ok (.imul, 1) := by decide +kernel
theorem dX8_soonest_190 : decode cX8_soonest 190 = .ok (.iload 8, 2) := by decide +kernel
theorem dX8_soonest_192 : decode cX8_soonest 192 = .ok (.iadd, 1) := by decide +kernel
theorem dX8_soonest_193 : decode cX8_soonest 193 = .ok (.baload, 1) := by decide +kernel
theorem dX8_soonest_194 : decode cX8_soonest 194 = .ok (.ifCond .eq 59, 3) := by decide +kernel
theorem dX8_soonest_197 : decode cX8_soonest 197 = .ok (.aload_n 0, 1) := by decide +kernel
theorem dX8_soonest_198 : decode cX8_soonest 198 = .ok (.getfield 20, 3) := by decide +kernel
theorem dX8_soonest_201 : decode cX8_soonest 201 = .ok (.bipush 7, 2) := by decide +kernel
theorem dX8_soonest_203 : decode cX8_soonest 203 = .ok (.iload 7, 2) := by decide +kernel
theorem dX8_soonest_205 : decode cX8_soonest 205 = .ok (.imul, 1) := by decide +kernel
theorem dX8_soonest_206 : decode cX8_soonest 206 = .ok (.iload 8, 2) := by decide +kernel
theorem dX8_soonest_208 : decode cX8_soonest 208 = .ok (.iadd, 1) := by decide +kernel
theorem dX8_soonest_209 : decode cX8_soonest 209 = .ok (.iaload, 1) := by decide +kernel
theorem dX8_soonest_210 : decode cX8_soonest 210 = .ok (.iload_n 2, 1) := by decide +kernel
theorem dX8_soonest_211 : decode cX8_soonest 211 = .ok (.if_icmp .ne 42, 3) := by decide +kernel
theorem dX8_soonest_214 : decode cX8_soonest 214 = .ok (.iload 6, 2) := by decide +kernel
theorem dX8_soonest_216 : decode cX8_soonest 216 = .ok (.iconst (-1), 1) := by decide +kernel
theorem dX8_soonest_217 : decode cX8_soonest 217 = .ok (.if_icmp .eq 21, 3) := by decide +kernel
theorem dX8_soonest_220 : decode cX8_soonest 220 = .ok (.aload_n 0, 1) := by decide +kernel
theorem dX8_soonest_221 : decode cX8_soonest 221 = .ok (.getfield 23, 3) := by decide +kernel
theorem dX8_soonest_224 : decode cX8_soonest 224 = .ok (.bipush 7, 2) := by decide +kernel
theorem dX8_soonest_226 : decode cX8_soonest 226 = .ok (.iload 7, 2) := by decide +kernel
theorem dX8_soonest_228 : decode cX8_soonest 228 = .ok (.imul, 1) := by decide +kernel
theorem dX8_soonest_229 : decode cX8_soonest 229 = .ok (.iload 8, 2) := by decide +kernel
theorem dX8_soonest_231 : decode cX8_soonest 231 = .ok (.iadd, 1) := by decide +kernel
theorem dX8_soonest_232 : decode cX8_soonest 232 = .ok (.iaload, 1) := by decide +kernel
theorem dX8_soonest_233 : decode cX8_soonest 233 = .ok (.iload 6, 2) := by decide +kernel
theorem dX8_soonest_235 : decode cX8_soonest 235 = .ok (.if_icmp .ge 18, 3) := by decide +kernel
theorem dX8_soonest_238 : decode cX8_soonest 238 = .ok (.aload_n 0, 1) := by decide +kernel
theorem dX8_soonest_239 : decode cX8_soonest 239 = .ok (.getfield 23, 3) := by decide +kernel
theorem dX8_soonest_242 : decode cX8_soonest 242 = .ok (.bipush 7, 2) := by decide +kernel
theorem dX8_soonest_244 : decode cX8_soonest 244 = .ok (.iload 7, 2) := by decide +kernel
theorem dX8_soonest_246 : decode cX8_soonest 246 = .ok (.imul, 1) := by decide +kernel
theorem dX8_soonest_247 : decode cX8_soonest 247 = .ok (.iload 8, 2) := by decide +kernel
theorem dX8_soonest_249 : decode cX8_soonest 249 = .ok (.iadd, 1) := by decide +kernel
theorem dX8_soonest_250 : decode cX8_soonest 250 = .ok (.iaload, 1) := by decide +kernel
theorem dX8_soonest_251 : decode cX8_soonest 251 = .ok (.istore 6, 2) := by decide +kernel
theorem dX8_soonest_253 : decode cX8_soonest 253 = .ok (.iinc 8 1, 3) := by decide +kernel
theorem dX8_soonest_256 : decode cX8_soonest 256 = .ok (.goto (-87), 3) := by decide +kernel
theorem dX8_soonest_259 : decode cX8_soonest 259 = .ok (.iinc 7 1, 3) := by decide +kernel
theorem dX8_soonest_262 : decode cX8_soonest 262 = .ok (.goto (-105), 3) := by decide +kernel
theorem dX8_soonest_265 : decode cX8_soonest 265 = .ok (.iload 6, 2) := by decide +kernel
theorem dX8_soonest_267 : decode cX8_soonest 267 = .ok (.ireturn, 1) := by decide +kernel
theorem dX8_findRest_0 : decode cX8_findRest 0 = .ok (.iconst 0, 1) := by decide +kernel
theorem dX8_findRest_1 : decode cX8_findRest 1 = .ok (.istore_n 3, 1) := by decide +kernel
theorem dX8_findRest_2 : decode cX8_findRest 2 = .ok (.iload_n 3, 1) := by decide +kernel
theorem dX8_findRest_3 : decode cX8_findRest 3 = .ok (.sipush 770, 3) := by decide +kernel
theorem dX8_findRest_6 : decode cX8_findRest 6 = .ok (.if_icmp .ge 16, 3) := by decide +kernel
theorem dX8_findRest_9 : decode cX8_findRest 9 = .ok (.aload_n 0, 1) := by decide +kernel
theorem dX8_findRest_10 : decode cX8_findRest 10 = .ok (.getfield 70, 3) := by decide +kernel
theorem dX8_findRest_13 : decode cX8_findRest 13 = .ok (.iload_n 3, 1) := by decide +kernel
theorem dX8_findRest_14 : decode cX8_findRest 14 = .ok (.iconst 0, 1) := by decide +kernel
theorem dX8_findRest_15 : decode cX8_findRest 15 = .ok (.bastore, 1) := by decide +kernel
theorem dX8_findRest_16 : decode cX8_findRest 16 = .ok (.iinc 3 1, 3) := by decide +kernel
theorem dX8_findRest_19 : decode cX8_findRest 19 = .ok (.goto (-17), 3) := by decide +kernel
theorem dX8_findRest_22 : decode cX8_findRest 22 = .ok (.iconst 0, 1) := by decide +kernel
theorem dX8_findRest_23 : decode cX8_findRest 23 = .ok (.istore_n 3, 1) := by decide +kernel
theorem dX8_findRest_24 : decode cX8_findRest 24 = .ok (.iload_n 3, 1) := by decide +kernel
theorem dX8_findRest_25 : decode cX8_findRest 25 = .ok (.bipush 11, 2) := by decide +kernel
theorem dX8_findRest_27 : decode cX8_findRest 27 = .ok (.if_icmp .ge 127, 3) := by decide +kernel
theorem dX8_findRest_30 : decode cX8_findRest 30 = .ok (.iconst 0, 1) := by decide +kernel
theorem dX8_findRest_31 : decode cX8_findRest 31 = .ok (.istore 4, 2) := by decide +kernel
theorem dX8_findRest_33 : decode cX8_findRest 33 = .ok (.iload 4, 2) := by decide +kernel
theorem dX8_findRest_35 : decode cX8_findRest 35 = .ok (.aload_n 0, 1) := by decide +kernel
theorem dX8_findRest_36 : decode cX8_findRest 36 = .ok (.getfield 97, 3) := by decide +kernel
theorem dX8_findRest_39 : decode cX8_findRest 39 = .ok (.if_icmp .ge 109, 3) := by decide +kernel
theorem dX8_findRest_42 : decode cX8_findRest 42 = .ok (.iconst 1, 1) := by decide +kernel
theorem dX8_findRest_43 : decode cX8_findRest 43 = .ok (.istore 5, 2) := by decide +kernel
theorem dX8_findRest_45 : decode cX8_findRest 45 = .ok (.iload 5, 2) := by decide +kernel
theorem dX8_findRest_47 : decode cX8_findRest 47 = .ok (.aload_n 0, 1) := by decide +kernel
theorem dX8_findRest_48 : decode cX8_findRest 48 = .ok (.getfield 17, 3) := by decide +kernel
theorem dX8_findRest_51 : decode cX8_findRest 51 = .ok (.iload 4, 2) := by decide +kernel
theorem dX8_findRest_53 : decode cX8_findRest 53 = .ok (.iaload, 1) := by decide +kernel
theorem dX8_findRest_54 : decode cX8_findRest 54 = .ok (.if_icmp .ge 88, 3) := by decide +kernel
theorem dX8_findRest_57 : decode cX8_findRest 57 = .ok (.aload_n 0, 1) := by decide +kernel
theorem dX8_findRest_58 : decode cX8_findRest 58 = .ok (.iload 4, 2) := by decide +kernel
theorem dX8_findRest_60 : decode cX8_findRest 60 = .ok (.iload_n 2, 1) := by decide +kernel
theorem dX8_findRest_61 : decode cX8_findRest 61 = .ok (.invokevirtual 179, 3) := by decide +kernel
theorem dX8_findRest_64 : decode cX8_findRest 64 = .ok (.ifCond .eq 78, 3) := by decide +kernel
theorem dX8_findRest_67 : decode cX8_findRest 67 = .ok (.bipush 7, 2) := by decide +kernel
theorem dX8_findRest_69 : decode cX8_findRest 69 = .ok (.iload 4, 2) := by decide +kernel
theorem dX8_findRest_71 : decode cX8_findRest 71 = .ok (.imul, 1) := by decide +kernel
theorem dX8_findRest_72 : decode cX8_findRest 72 = .ok (.iload 5, 2) := by decide +kernel
theorem dX8_findRest_74 : decode cX8_findRest 74 = .ok (.iadd, 1) := by decide +kernel
theorem dX8_findRest_75 : decode cX8_findRest 75 = .ok (.istore 6, 2) := by decide +kernel
theorem dX8_findRest_77 : decode cX8_findRest 77 = .ok (.aload_n 0, 1) := by decide +kernel
theorem dX8_findRest_78 : decode cX8_findRest 78 = .ok (.getfield 70, 3) := by decide +kernel
theorem dX8_findRest_81 : decode cX8_findRest 81 = .ok (.bipush 70, 2) := by decide +kernel
theorem dX8_findRest_83 : decode cX8_findRest 83 = .ok (.iload_n 3, 1) := by decide +kernel
theorem dX8_findRest_84 : decode cX8_findRest 84 = .ok (.imul, 1) := by decide +kernel
theorem dX8_findRest_85 : decode cX8_findRest 85 = .ok (.iload 6, 2) := by decide +kernel
theorem dX8_findRest_87 : decode cX8_findRest 87 = .ok (.iadd, 1) := by decide +kernel
theorem dX8_findRest_88 : decode cX8_findRest 88 = .ok (.iload_n 3, 1) := by decide +kernel
theorem dX8_findRest_89 : decode cX8_findRest 89 = .ok (.ifCond .ne 36, 3) := by decide +kernel
theorem dX8_findRest_92 : decode cX8_findRest 92 = .ok (.aload_n 0, 1) := by decide +kernel
theorem dX8_findRest_93 : decode cX8_findRest 93 = .ok (.getfield 20, 3) := by decide +kernel
theorem dX8_findRest_96 : decode cX8_findRest 96 = .ok (.iload 6, 2) := by decide +kernel
theorem dX8_findRest_98 : decode cX8_findRest 98 = .ok (.iaload, 1) := by decide +kernel
theorem dX8_findRest_99 : decode cX8_findRest 99 = .ok (.iload_n 1, 1) := by decide +kernel
theorem dX8_findRest_100 : decode cX8_findRest 100 = .ok (.if_icmp .ne 21, 3) := by decide +kernel
theorem dX8_findRest_103 : decode cX8_findRest 103 = .ok (.aload_n 0, 1) := by decide +kernel
theorem dX8_findRest_104 : decode cX8_findRest 104 = .ok (.getfield 23, 3) := by decide +kernel
theorem dX8_findRest_107 : decode cX8_findRest 107 = .ok (.iload 6, 2) := by decide +kernel
theorem dX8_findRest_109 : decode cX8_findRest 109 = .ok (.iaload, 1) := by decide +kernel
theorem dX8_findRest_110 : decode cX8_findRest 110 = .ok (.aload_n 0, 1) := by decide +kernel
theorem dX8_findRest_111 : decode cX8_findRest 111 = .ok (.getfield 189, 3) := by decide +kernel
theorem dX8_findRest_114 : decode cX8_findRest 114 = .ok (.if_icmp .ne 7, 3) := by decide +kernel
theorem dX8_findRest_117 : decode cX8_findRest 117 = .ok (.iconst 1, 1) := by decide +kernel
theorem dX8_findRest_118 : decode cX8_findRest 118 = .ok (.goto 17, 3) := by decide +kernel
theorem dX8_findRest_121 : decode cX8_findRest 121 = .ok (.iconst 0, 1) := by decide +kernel
theorem dX8_findRest_122 : decode cX8_findRest 122 = .ok (.goto 13, 3) := by decide +kernel
theorem dX8_findRest_125 : decode cX8_findRest 125 = .ok (.aload_n 0, 1) := by decide +kernel
theorem dX8_findRest_126 : decode cX8_findRest 126 = .ok (.iload 6, 2) := by decide +kernel
theorem dX8_findRest_128 : decode cX8_findRest 128 = .ok (.iload_n 3, 1) := by decide +kernel
theorem dX8_findRest_129 : decode cX8_findRest 129 = .ok (.iconst 1, 1) := by decide +kernel
theorem dX8_findRest_130 : decode cX8_findRest 130 = .ok (.isub, 1) := by decide +kernel
theorem dX8_findRest_131 : decode cX8_findRest 131 = .ok (.iload_n 2, 1) := by decide +kernel
theorem dX8_findRest_132 : decode cX8_findRest 132 = .ok (.invokevirtual 192, 3) := by decide +kernel
theorem dX8_findRest_135 : decode cX8_findRest 135 = .ok (.bastore, 1) := by decide +kernel
theorem dX8_findRest_136 : decode cX8_findRest 136 = .ok (.iinc 5 1, 3) := by decide +kernel
theorem dX8_findRest_139 : decode cX8_findRest 139 = .ok (.goto (-94), 3) := by decide +kernel
theorem dX8_findRest_142 : decode cX8_findRest 142 = .ok (.iinc 4 1, 3) := by decide +kernel
theorem dX8_findRest_145 : decode cX8_findRest 145 = .ok (.goto (-112), 3) := by decide +kernel
theorem dX8_findRest_148 : decode cX8_findRest 148 = .ok (.iinc 3 1, 3) := by decide +kernel
theorem dX8_findRest_151 : decode cX8_findRest 151 = .ok (.goto (-127), 3) := by decide +kernel
theorem dX8_findRest_154 : decode cX8_findRest 154 = .ok (.return_, 1) := by decide +kernel
theorem dX8_canGoOn_0 : decode cX8_canGoOn 0 = .ok (.iconst 0, 1) := by decide +kernel
theorem dX8_canGoOn_1 : decode cX8_canGoOn 1 = .ok (.istore 4, 2) := by decide +kernel
theorem dX8_canGoOn_3 : decode cX8_canGoOn 3 = .ok (.iload 4, 2) := by decide +kernel
theorem dX8_canGoOn_5 : decode cX8_canGoOn 5 = .ok (.aload_n 0, 1) := by decide +kernel
theorem dX8_canGoOn_6 : decode cX8_canGoOn 6 = .ok (.getfield 97, 3) := by decide +kernel
theorem dX8_canGoOn_9 : decode cX8_canGoOn 9 = .ok (.if_icmp .ge 102, 3) := by decide +kernel
theorem dX8_canGoOn_12 : decode cX8_canGoOn 12 = .ok (.aload_n 0, 1) := by decide +kernel
theorem dX8_canGoOn_13 : decode cX8_canGoOn 13 = .ok (.iload 4, 2) := by decide +kernel
theorem dX8_canGoOn_15 : decode cX8_canGoOn 15 = .ok (.iload_n 3, 1) := by decide +kernel
theorem dX8_canGoOn_16 : decode cX8_canGoOn 16 = .ok (.invokevirtual 179, 3) := by decide +kernel
theorem dX8_canGoOn_19 : decode cX8_canGoOn 19 = .ok (.ifCond .ne 6, 3) := by decide +kernel
theorem dX8_canGoOn_22 : decode cX8_canGoOn 22 = .ok (.goto 83, 3) := by decide +kernel
theorem dX8_canGoOn_25 : decode cX8_canGoOn 25 = .ok (.iconst 0, 1) := by decide +kernel
theorem dX8_canGoOn_26 : decode cX8_canGoOn 26 = .ok (.istore 5, 2) := by decide +kernel
theorem dX8_canGoOn_28 : decode cX8_canGoOn 28 = .ok (.iconst 0, 1) := by decide +kernel
theorem dX8_canGoOn_29 : decode cX8_canGoOn 29 = .ok (.istore 6, 2) := by decide +kernel
theorem dX8_canGoOn_31 : decode cX8_canGoOn 31 = .ok (.iload 6, 2) := by decide +kernel
theorem dX8_canGoOn_33 : decode cX8_canGoOn 33 = .ok (.aload_n 0, 1) := by decide +kernel
theorem dX8_canGoOn_34 : decode cX8_canGoOn 34 = .ok (.getfield 17, 3) := by decide +kernel
theorem dX8_canGoOn_37 : decode cX8_canGoOn 37 = .ok (.iload 4, 2) := by decide +kernel
theorem dX8_canGoOn_39 : decode cX8_canGoOn 39 = .ok (.iaload, 1) := by decide +kernel
theorem dX8_canGoOn_40 : decode cX8_canGoOn 40 = .ok (.if_icmp .ge 65, 3) := by decide +kernel
theorem dX8_canGoOn_43 : decode cX8_canGoOn 43 = .ok (.iload 5, 2) := by decide +kernel
theorem dX8_canGoOn_45 : decode cX8_canGoOn 45 = .ok (.ifCond .eq 26, 3) := by decide +kernel
theorem dX8_canGoOn_48 : decode cX8_canGoOn 48 = .ok (.aload_n 0, 1) := by decide +kernel
theorem dX8_canGoOn_49 : decode cX8_canGoOn 49 = .ok (.getfield 70, 3) := by decide +kernel
theorem dX8_canGoOn_52 : decode cX8_canGoOn 52 = .ok (.bipush 70, 2) := by decide +kernel
theorem dX8_canGoOn_54 : decode cX8_canGoOn 54 = .ok (.iload_n 2, 1) := by decide +kernel
theorem dX8_canGoOn_55 : decode cX8_canGoOn 55 = .ok (.imul, 1) := by decide +kernel
theorem dX8_canGoOn_56 : decode cX8_canGoOn 56 = .ok (.bipush 7, 2) := by decide +kernel
theorem dX8_canGoOn_58 : decode cX8_canGoOn 58 = .ok (.iload 4, 2) := by decide +kernel
theorem dX8_canGoOn_60 : decode cX8_canGoOn 60 = .ok (.imul, 1) := by decide +kernel
theorem dX8_canGoOn_61 : decode cX8_canGoOn 61 = .ok (.iadd, 1) := by decide +kernel
theorem dX8_canGoOn_62 : decode cX8_canGoOn 62 = .ok (.iload 6, 2) := by decide +kernel
theorem dX8_canGoOn_64 : decode cX8_canGoOn 64 = .ok (.iadd, 1) := by decide +kernel
theorem dX8_canGoOn_65 : decode cX8_canGoOn 65 = .ok (.baload, 1) := by decide +kernel
theorem dX8_canGoOn_66 : decode cX8_canGoOn 66 = .ok (.ifCond .eq 5, 3) := by decide +kernel
theorem dX8_canGoOn_69 : decode cX8_canGoOn 69 = .ok (.iconst 1, 1) := by decide +kernel
theorem dX8_canGoOn_70 : decode cX8_canGoOn 70 = .ok (.ireturn, 1) := by decide +kernel
theorem dX8_canGoOn_71 : decode cX8_canGoOn 71 = .ok (.iload 5, 2) := by decide +kernel
theorem dX8_canGoOn_73 : decode cX8_canGoOn 73 = .ok (.ifCond .ne 19, 3) := by decide +kernel
theorem dX8_canGoOn_76 : decode cX8_canGoOn 76 = .ok (.aload_n 0, 1) := by decide +kernel
theorem dX8_canGoOn_77 : decode cX8_canGoOn 77 = .ok (.iload_n 1, 1) := by decide +kernel
theorem dX8_canGoOn_78 : decode cX8_canGoOn 78 = .ok (.bipush 7, 2) := by decide +kernel
theorem dX8_canGoOn_80 : decode cX8_canGoOn 80 = .ok (.iload 4, 2) := by decide +kernel
theorem dX8_canGoOn_82 : decode cX8_canGoOn 82 = .ok (.imul, 1) := by decide +kernel
theorem dX8_canGoOn_83 : decode cX8_canGoOn 83 = .ok (.iload 6, 2) := by decide +kernel
theorem dX8_canGoOn_85 : decode cX8_canGoOn 85 = .ok (.iadd, 1) := by decide +kernel
theorem dX8_canGoOn_86 : decode cX8_canGoOn 86 = .ok (.invokevirtual 182, 3) := by decide +kernel
theorem dX8_canGoOn_89 : decode cX8_canGoOn 89 = .ok (.ifCond .eq 7, 3) := by decide +kernel
theorem dX8_canGoOn_92 : decode cX8_canGoOn 92 = .ok (.iconst 1, 1) := by decide +kernel
theorem dX8_canGoOn_93 : decode cX8_canGoOn 93 = .ok (.goto 4, 3) := by decide +kernel
theorem dX8_canGoOn_96 : decode cX8_canGoOn 96 = .ok (.iconst 0, 1) := by decide +kernel
theorem dX8_canGoOn_97 : decode cX8_canGoOn 97 = .ok (.istore 5, 2) := by decide +kernel
theorem dX8_canGoOn_99 : decode cX8_canGoOn 99 = .ok (.iinc 6 1, 3) := by decide +kernel
theorem dX8_canGoOn_102 : decode cX8_canGoOn 102 = .ok (.goto (-71), 3) := by decide +kernel
theorem dX8_canGoOn_105 : decode cX8_canGoOn 105 = .ok (.iinc 4 1, 3) := by decide +kernel
theorem dX8_canGoOn_108 : decode cX8_canGoOn 108 = .ok (.goto (-105), 3) := by decide +kernel
theorem dX8_canGoOn_111 : decode cX8_canGoOn 111 = .ok (.iconst 0, 1) := by decide +kernel
theorem dX8_canGoOn_112 : decode cX8_canGoOn 112 = .ok (.ireturn, 1) := by decide +kernel
theorem dX8_canBoard_0 : decode cX8_canBoard 0 = .ok (.iload_n 2, 1) := by decide +kernel
theorem dX8_canBoard_1 : decode cX8_canBoard 1 = .ok (.ifCond .eq 30, 3) := by decide +kernel
theorem dX8_canBoard_4 : decode cX8_canBoard 4 = .ok (.aload_n 0, 1) := by decide +kernel
theorem dX8_canBoard_5 : decode cX8_canBoard 5 = .ok (.getfield 20, 3) := by decide +kernel
theorem dX8_canBoard_8 : decode cX8_canBoard 8 = .ok (.iload_n 1, 1) := by decide +kernel
theorem dX8_canBoard_9 : decode cX8_canBoard 9 = .ok (.iaload, 1) := by decide +kernel
theorem dX8_canBoard_10 : decode cX8_canBoard 10 = .ok (.iload_n 3, 1) := by decide +kernel
theorem dX8_canBoard_11 : decode cX8_canBoard 11 = .ok (.if_icmp .ne 18, 3) := by decide +kernel
theorem dX8_canBoard_14 : decode cX8_canBoard 14 = .ok (.aload_n 0, 1) := by decide +kernel
theorem dX8_canBoard_15 : decode cX8_canBoard 15 = .ok (.getfield 26, 3) := by decide +kernel
theorem dX8_canBoard_18 : decode cX8_canBoard 18 = .ok (.iload_n 1, 1) := by decide +kernel
theorem dX8_canBoard_19 : decode cX8_canBoard 19 = .ok (.iaload, 1) := by decide +kernel
theorem dX8_canBoard_20 : decode cX8_canBoard 20 = .ok (.iload 4, 2) := by decide +kernel
theorem dX8_canBoard_22 : decode cX8_canBoard 22 = .ok (.if_icmp .lt 7, 3) := by decide +kernel
theorem dX8_canBoard_25 : decode cX8_canBoard 25 = .ok (.iconst 1, 1) := by decide +kernel
theorem dX8_canBoard_26 : decode cX8_canBoard 26 = .ok (.goto 4, 3) := by decide +kernel
theorem dX8_canBoard_29 : decode cX8_canBoard 29 = .ok (.iconst 0, 1) := by decide +kernel
theorem dX8_canBoard_30 : decode cX8_canBoard 30 = .ok (.ireturn, 1) := by decide +kernel
theorem dX8_canBoard_31 : decode cX8_canBoard 31 = .ok (.iconst 0, 1) := by decide +kernel
theorem dX8_canBoard_32 : decode cX8_canBoard 32 = .ok (.istore 5, 2) := by decide +kernel
theorem dX8_canBoard_34 : decode cX8_canBoard 34 = .ok (.iload 5, 2) := by decide +kernel
theorem dX8_canBoard_36 : decode cX8_canBoard 36 = .ok (.bipush 70, 2) := by decide +kernel
theorem dX8_canBoard_38 : decode cX8_canBoard 38 = .ok (.if_icmp .ge 31, 3) := by decide +kernel
theorem dX8_canBoard_41 : decode cX8_canBoard 41 = .ok (.aload_n 0, 1) := by decide +kernel
theorem dX8_canBoard_42 : decode cX8_canBoard 42 = .ok (.getfield 82, 3) := by decide +kernel
theorem dX8_canBoard_45 : decode cX8_canBoard 45 = .ok (.iload 5, 2) := by decide +kernel
theorem dX8_canBoard_47 : decode cX8_canBoard 47 = .ok (.baload, 1) := by decide +kernel
theorem dX8_canBoard_48 : decode cX8_canBoard 48 = .ok (.ifCond .eq 15, 3) := by decide +kernel
theorem dX8_canBoard_51 : decode cX8_canBoard 51 = .ok (.aload_n 0, 1) := by decide +kernel
theorem dX8_canBoard_52 : decode cX8_canBoard 52 = .ok (.iload 5, 2) := by decide +kernel
theorem dX8_canBoard_54 : decode cX8_canBoard 54 = .ok (.iload_n 1, 1) := by decide +kernel
theorem dX8_canBoard_55 : decode cX8_canBoard 55 = .ok (.invokevirtual 182, 3) := by decide +kernel
theorem dX8_canBoard_58 : decode cX8_canBoard 58 = .ok (.ifCond .eq 5, 3) := by decide +kernel
theorem dX8_canBoard_61 : decode cX8_canBoard 61 = .ok (.iconst 1, 1) := by decide +kernel
theorem dX8_canBoard_62 : decode cX8_canBoard 62 = .ok (.ireturn, 1) := by decide +kernel
theorem dX8_canBoard_63 : decode cX8_canBoard 63 = .ok (.iinc 5 1, 3) := by decide +kernel
theorem dX8_canBoard_66 : decode cX8_canBoard 66 = .ok (.goto (-32), 3) := by decide +kernel
theorem dX8_canBoard_69 : decode cX8_canBoard 69 = .ok (.iconst 0, 1) := by decide +kernel
theorem dX8_canBoard_70 : decode cX8_canBoard 70 = .ok (.ireturn, 1) := by decide +kernel
theorem dX8_leavesAt_0 : decode cX8_leavesAt 0 = .ok (.iconst 0, 1) := by decide +kernel
theorem dX8_leavesAt_1 : decode cX8_leavesAt 1 = .ok (.istore 6, 2) := by decide +kernel
theorem dX8_leavesAt_3 : decode cX8_leavesAt 3 = .ok (.iload 6, 2) := by decide +kernel
theorem dX8_leavesAt_5 : decode cX8_leavesAt 5 = .ok (.bipush 70, 2) := by decide +kernel
theorem dX8_leavesAt_7 : decode cX8_leavesAt 7 = .ok (.if_icmp .ge 17, 3) := by decide +kernel
theorem dX8_leavesAt_10 : decode cX8_leavesAt 10 = .ok (.aload_n 0, 1) := by decide +kernel
theorem dX8_leavesAt_11 : decode cX8_leavesAt 11 = .ok (.getfield 85, 3) := by decide +kernel
theorem dX8_leavesAt_14 : decode cX8_leavesAt 14 = .ok (.iload 6, 2) := by decide +kernel
theorem dX8_leavesAt_16 : decode cX8_leavesAt 16 = .ok (.iconst 0, 1) := by decide +kernel
theorem dX8_leavesAt_17 : decode cX8_leavesAt 17 = .ok (.bastore, 1) := by decide +kernel
theorem dX8_leavesAt_18 : decode cX8_leavesAt 18 = .ok (.iinc 6 1, 3) := by decide +kernel
theorem dX8_leavesAt_21 : decode cX8_leavesAt 21 = .ok (.goto (-18), 3) := by decide +kernel
theorem dX8_leavesAt_24 : decode cX8_leavesAt 24 = .ok (.iconst 0, 1) := by decide +kernel
theorem dX8_leavesAt_25 : decode cX8_leavesAt 25 = .ok (.istore 6, 2) := by decide +kernel
theorem dX8_leavesAt_27 : decode cX8_leavesAt 27 = .ok (.iconst 0, 1) := by decide +kernel
theorem dX8_leavesAt_28 : decode cX8_leavesAt 28 = .ok (.istore 7, 2) := by decide +kernel
theorem dX8_leavesAt_30 : decode cX8_leavesAt 30 = .ok (.iconst 0, 1) := by decide +kernel
theorem dX8_leavesAt_31 : decode cX8_leavesAt 31 = .ok (.istore 8, 2) := by decide +kernel
theorem dX8_leavesAt_33 : decode cX8_leavesAt 33 = .ok (.iload 8, 2) := by decide +kernel
theorem dX8_leavesAt_35 : decode cX8_leavesAt 35 = .ok (.aload_n 0, 1) := by decide +kernel
theorem dX8_leavesAt_36 : decode cX8_leavesAt 36 = .ok (.getfield 17, 3) := by decide +kernel
theorem dX8_leavesAt_39 : decode cX8_leavesAt 39 = .ok (.iload_n 1, 1) := by decide +kernel
theorem dX8_leavesAt_40 : decode cX8_leavesAt 40 = .ok (.iaload, 1) := by decide +kernel
theorem dX8_leavesAt_41 : decode cX8_leavesAt 41 = .ok (.if_icmp .ge 75, 3) := by decide +kernel
theorem dX8_leavesAt_44 : decode cX8_leavesAt 44 = .ok (.bipush 7, 2) := by decide +kernel
theorem dX8_leavesAt_46 : decode cX8_leavesAt 46 = .ok (.iload_n 1, 1) := by decide +kernel
theorem dX8_leavesAt_47 : decode cX8_leavesAt 47 = .ok (.imul, 1) := by decide +kernel
theorem dX8_leavesAt_48 : decode cX8_leavesAt 48 = .ok (.iload 8, 2) := by decide +kernel
theorem dX8_leavesAt_50 : decode cX8_leavesAt 50 = .ok (.iadd, 1) := by decide +kernel
theorem dX8_leavesAt_51 : decode cX8_leavesAt 51 = .ok (.istore 9, 2) := by decide +kernel
theorem dX8_leavesAt_53 : decode cX8_leavesAt 53 = .ok (.iload 6, 2) := by decide +kernel
theorem dX8_leavesAt_55 : decode cX8_leavesAt 55 = .ok (.ifCond .eq 30, 3) := by decide +kernel
theorem dX8_leavesAt_58 : decode cX8_leavesAt 58 = .ok (.aload_n 0, 1) := by decide +kernel
theorem dX8_leavesAt_59 : decode cX8_leavesAt 59 = .ok (.getfield 70, 3) := by decide +kernel
theorem dX8_leavesAt_62 : decode cX8_leavesAt 62 = .ok (.bipush 70, 2) := by decide +kernel
theorem dX8_leavesAt_64 : decode cX8_leavesAt 64 = .ok (.iload 5, 2) := by decide +kernel
theorem dX8_leavesAt_66 : decode cX8_leavesAt 66 = .ok (.imul, 1) := by decide +kernel
theorem dX8_leavesAt_67 : decode cX8_leavesAt 67 = .ok (.iload 9, 2) := by decide +kernel
theorem dX8_leavesAt_69 : decode cX8_leavesAt 69 = .ok (.iadd, 1) := by decide +kernel
theorem dX8_leavesAt_70 : decode cX8_leavesAt 70 = .ok (.baload, 1) := by decide +kernel
theorem dX8_leavesAt_71 : decode cX8_leavesAt 71 = .ok (.ifCond .eq 14, 3) := by decide +kernel
theorem dX8_leavesAt_74 : decode cX8_leavesAt 74 = .ok (.aload_n 0, 1) := by decide +kernel
theorem dX8_leavesAt_75 : decode cX8_leavesAt 75 = .ok (.getfield 85, 3) := by decide +kernel
theorem dX8_leavesAt_78 : decode cX8_leavesAt 78 = .ok (.iload 9, 2) := by decide +kernel
theorem dX8_leavesAt_80 : decode cX8_leavesAt 80 = .ok (.iconst 1, 1) := by decide +kernel
theorem dX8_leavesAt_81 : decode cX8_leavesAt 81 = .ok (.bastore, 1) := by decide +kernel
theorem dX8_leavesAt_82 : decode cX8_leavesAt 82 = .ok (.iconst 1, 1) := by decide +kernel
theorem dX8_leavesAt_83 : decode cX8_leavesAt 83 = .ok (.istore 7, 2) := by decide +kernel
theorem dX8_leavesAt_85 : decode cX8_leavesAt 85 = .ok (.iload 6, 2) := by decide +kernel
theorem dX8_leavesAt_87 : decode cX8_leavesAt 87 = .ok (.ifCond .ne 16, 3) := by decide +kernel
theorem dX8_leavesAt_90 : decode cX8_leavesAt 90 = .ok (.aload_n 0, 1) := by decide +kernel
theorem dX8_leavesAt_91 : decode cX8_leavesAt 91 = .ok (.iload 9, 2) := by decide +kernel
theorem dX8_leavesAt_93 : decode cX8_leavesAt 93 = .ok (.iload_n 2, 1) := by decide +kernel
theorem dX8_leavesAt_94 : decode cX8_leavesAt 94 = .ok (.iload_n 3, 1) := by decide +kernel
theorem dX8_leavesAt_95 : decode cX8_leavesAt 95 = .ok (.iload 4, 2) := by decide +kernel
theorem dX8_leavesAt_97 : decode cX8_leavesAt 97 = .ok (.invokevirtual 196, 3) := by decide +kernel
theorem dX8_leavesAt_100 : decode cX8_leavesAt 100 = .ok (.ifCond .eq 7, 3) := by decide +kernel
theorem dX8_leavesAt_103 : decode cX8_leavesAt 103 = .ok (.iconst 1, 1) := by decide +kernel
theorem dX8_leavesAt_104 : decode cX8_leavesAt 104 = .ok (.goto 4, 3) := by decide +kernel
theorem dX8_leavesAt_107 : decode cX8_leavesAt 107 = .ok (.iconst 0, 1) := by decide +kernel
theorem dX8_leavesAt_108 : decode cX8_leavesAt 108 = .ok (.istore 6, 2) := by decide +kernel
theorem dX8_leavesAt_110 : decode cX8_leavesAt 110 = .ok (.iinc 8 1, 3) := by decide +kernel
theorem dX8_leavesAt_113 : decode cX8_leavesAt 113 = .ok (.goto (-80), 3) := by decide +kernel
theorem dX8_leavesAt_116 : decode cX8_leavesAt 116 = .ok (.iload 7, 2) := by decide +kernel
theorem dX8_leavesAt_118 : decode cX8_leavesAt 118 = .ok (.ireturn, 1) := by decide +kernel
theorem dX8_firstTrain_0 : decode cX8_firstTrain 0 = .ok (.iconst 0, 1) := by decide +kernel
theorem dX8_firstTrain_1 : decode cX8_firstTrain 1 = .ok (.istore 6, 2) := by decide +kernel
theorem dX8_firstTrain_3 : decode cX8_firstTrain 3 = .ok (.iload 6, 2) := by decide +kernel
theorem dX8_firstTrain_5 : decode cX8_firstTrain 5 = .ok (.aload_n 0, 1) := by decide +kernel
theorem dX8_firstTrain_6 : decode cX8_firstTrain 6 = .ok (.getfield 97, 3) := by decide +kernel
theorem dX8_firstTrain_9 : decode cX8_firstTrain 9 = .ok (.if_icmp .ge 37, 3) := by decide +kernel
theorem dX8_firstTrain_12 : decode cX8_firstTrain 12 = .ok (.aload_n 0, 1) := by decide +kernel
theorem dX8_firstTrain_13 : decode cX8_firstTrain 13 = .ok (.iload 6, 2) := by decide +kernel
theorem dX8_firstTrain_15 : decode cX8_firstTrain 15 = .ok (.iload_n 3, 1) := by decide +kernel
theorem dX8_firstTrain_16 : decode cX8_firstTrain 16 = .ok (.invokevirtual 179, 3) := by decide +kernel
theorem dX8_firstTrain_19 : decode cX8_firstTrain 19 = .ok (.ifCond .eq 21, 3) := by decide +kernel
theorem dX8_firstTrain_22 : decode cX8_firstTrain 22 = .ok (.aload_n 0, 1) := by decide +kernel
theorem dX8_firstTrain_23 : decode cX8_firstTrain 23 = .ok (.iload 6, 2) := by decide +kernel
theorem dX8_firstTrain_25 : decode cX8_firstTrain 25 = .ok (.iload_n 1, 1) := by decide +kernel
theorem dX8_firstTrain_26 : decode cX8_firstTrain 26 = .ok (.iload_n 2, 1) := by decide +kernel
theorem dX8_firstTrain_27 : decode cX8_firstTrain 27 = .ok (.iload 4, 2) := by decide +kernel
theorem dX8_firstTrain_29 : decode cX8_firstTrain 29 = .ok (.iload 5, 2) := by decide +kernel
theorem dX8_firstTrain_31 : decode cX8_firstTrain 31 = .ok (.invokevirtual 200, 3) := by decide +kernel
theorem dX8_firstTrain_34 : decode cX8_firstTrain 34 = .ok (.ifCond .eq 6, 3) := by decide +kernel
theorem dX8_firstTrain_37 : decode cX8_firstTrain 37 = .ok (.iload 6, 2) := by decide +kernel
theorem dX8_firstTrain_39 : decode cX8_firstTrain 39 = .ok (.ireturn, 1) := by decide +kernel
theorem dX8_firstTrain_40 : decode cX8_firstTrain 40 = .ok (.iinc 6 1, 3) := by decide +kernel
theorem dX8_firstTrain_43 : decode cX8_firstTrain 43 = .ok (.goto (-40), 3) := by decide +kernel
theorem dX8_firstTrain_46 : decode cX8_firstTrain 46 = .ok (.iconst (-1), 1) := by decide +kernel
theorem dX8_firstTrain_47 : decode cX8_firstTrain 47 = .ok (.ireturn, 1) := by decide +kernel
theorem dX8_finds_0 : decode cX8_finds 0 = .ok (.aload_n 0, 1) := by decide +kernel
theorem dX8_finds_1 : decode cX8_finds 1 = .ok (.iload_n 1, 1) := by decide +kernel
theorem dX8_finds_2 : decode cX8_finds 2 = .ok (.invokevirtual 107, 3) := by decide +kernel
theorem dX8_finds_5 : decode cX8_finds 5 = .ok (.ifCond .eq 35, 3) := by decide +kernel
theorem dX8_finds_8 : decode cX8_finds 8 = .ok (.aload_n 0, 1) := by decide +kernel
theorem dX8_finds_9 : decode cX8_finds 9 = .ok (.iload_n 2, 1) := by decide +kernel
theorem dX8_finds_10 : decode cX8_finds 10 = .ok (.invokevirtual 107, 3) := by decide +kernel
theorem dX8_finds_13 : decode cX8_finds 13 = .ok (.ifCond .eq 27, 3) := by decide +kernel
theorem dX8_finds_16 : decode cX8_finds 16 = .ok (.iload_n 1, 1) := by decide +kernel
theorem dX8_finds_17 : decode cX8_finds 17 = .ok (.iload_n 2, 1) := by decide +kernel
theorem dX8_finds_18 : decode cX8_finds 18 = .ok (.if_icmp .eq 22, 3) := by decide +kernel
theorem dX8_finds_21 : decode cX8_finds 21 = .ok (.iload_n 3, 1) := by decide +kernel
theorem dX8_finds_22 : decode cX8_finds 22 = .ok (.ifCond .lt 18, 3) := by decide +kernel
theorem dX8_finds_25 : decode cX8_finds 25 = .ok (.iload_n 3, 1) := by decide +kernel
theorem dX8_finds_26 : decode cX8_finds 26 = .ok (.bipush 6, 2) := by decide +kernel
theorem dX8_finds_28 : decode cX8_finds 28 = .ok (.if_icmp .gt 12, 3) := by decide +kernel
theorem dX8_finds_31 : decode cX8_finds 31 = .ok (.aload_n 0, 1) := by decide +kernel
theorem dX8_finds_32 : decode cX8_finds 32 = .ok (.iload 4, 2) := by decide +kernel
theorem dX8_finds_34 : decode cX8_finds 34 = .ok (.invokevirtual 110, 3) := by decide +kernel
theorem dX8_finds_37 : decode cX8_finds 37 = .ok (.ifCond .ne 5, 3) := by decide +kernel
theorem dX8_finds_40 : decode cX8_finds 40 = .ok (.iconst 0, 1) := by decide +kernel
theorem dX8_finds_41 : decode cX8_finds 41 = .ok (.ireturn, 1) := by decide +kernel
theorem dX8_finds_42 : decode cX8_finds 42 = .ok (.aload_n 0, 1) := by decide +kernel
theorem dX8_finds_43 : decode cX8_finds 43 = .ok (.aload_n 0, 1) := by decide +kernel
theorem dX8_finds_44 : decode cX8_finds 44 = .ok (.iload_n 1, 1) := by decide +kernel
theorem dX8_finds_45 : decode cX8_finds 45 = .ok (.iload_n 2, 1) := by decide +kernel
theorem dX8_finds_46 : decode cX8_finds 46 = .ok (.iload_n 3, 1) := by decide +kernel
theorem dX8_finds_47 : decode cX8_finds 47 = .ok (.iload 4, 2) := by decide +kernel
theorem dX8_finds_49 : decode cX8_finds 49 = .ok (.invokevirtual 204, 3) := by decide +kernel
theorem dX8_finds_52 : decode cX8_finds 52 = .ok (.putfield 189, 3) := by decide +kernel
theorem dX8_finds_55 : decode cX8_finds 55 = .ok (.aload_n 0, 1) := by decide +kernel
theorem dX8_finds_56 : decode cX8_finds 56 = .ok (.getfield 189, 3) := by decide +kernel
theorem dX8_finds_59 : decode cX8_finds 59 = .ok (.iconst (-1), 1) := by decide +kernel
theorem dX8_finds_60 : decode cX8_finds 60 = .ok (.if_icmp .ne 5, 3) := by decide +kernel
theorem dX8_finds_63 : decode cX8_finds 63 = .ok (.iconst 0, 1) := by decide +kernel
theorem dX8_finds_64 : decode cX8_finds 64 = .ok (.ireturn, 1) := by decide +kernel
theorem dX8_finds_65 : decode cX8_finds 65 = .ok (.aload_n 0, 1) := by decide +kernel
theorem dX8_finds_66 : decode cX8_finds 66 = .ok (.iload_n 2, 1) := by decide +kernel
theorem dX8_finds_67 : decode cX8_finds 67 = .ok (.iload_n 3, 1) := by decide +kernel
theorem dX8_finds_68 : decode cX8_finds 68 = .ok (.invokevirtual 208, 3) := by decide +kernel
theorem dX8_finds_71 : decode cX8_finds 71 = .ok (.aload_n 0, 1) := by decide +kernel
theorem dX8_finds_72 : decode cX8_finds 72 = .ok (.iconst 1, 1) := by decide +kernel
theorem dX8_finds_73 : decode cX8_finds 73 = .ok (.putfield 211, 3) := by decide +kernel
theorem dX8_finds_76 : decode cX8_finds 76 = .ok (.aload_n 0, 1) := by decide +kernel
theorem dX8_finds_77 : decode cX8_finds 77 = .ok (.iconst 1, 1) := by decide +kernel
theorem dX8_finds_78 : decode cX8_finds 78 = .ok (.iload_n 1, 1) := by decide +kernel
theorem dX8_finds_79 : decode cX8_finds 79 = .ok (.iload_n 3, 1) := by decide +kernel
theorem dX8_finds_80 : decode cX8_finds 80 = .ok (.iload 4, 2) := by decide +kernel
theorem dX8_finds_82 : decode cX8_finds 82 = .ok (.aload_n 0, 1) := by decide +kernel
theorem dX8_finds_83 : decode cX8_finds 83 = .ok (.getfield 211, 3) := by decide +kernel
theorem dX8_finds_86 : decode cX8_finds 86 = .ok (.iconst 1, 1) := by decide +kernel
theorem dX8_finds_87 : decode cX8_finds 87 = .ok (.isub, 1) := by decide +kernel
theorem dX8_finds_88 : decode cX8_finds 88 = .ok (.invokevirtual 214, 3) := by decide +kernel
theorem dX8_finds_91 : decode cX8_finds 91 = .ok (.iconst (-1), 1) := by decide +kernel
theorem dX8_finds_92 : decode cX8_finds 92 = .ok (.if_icmp .ne 16, 3) := by decide +kernel
theorem dX8_finds_95 : decode cX8_finds 95 = .ok (.aload_n 0, 1) := by decide +kernel
theorem dX8_finds_96 : decode cX8_finds 96 = .ok (.aload_n 0, 1) := by decide +kernel
theorem dX8_finds_97 : decode cX8_finds 97 = .ok (.getfield 211, 3) := by decide +kernel
theorem dX8_finds_100 : decode cX8_finds 100 = .ok (.iconst 1, 1) := by decide +kernel
theorem dX8_finds_101 : decode cX8_finds 101 = .ok (.iadd, 1) := by decide +kernel
theorem dX8_finds_102 : decode cX8_finds 102 = .ok (.putfield 211, 3) := by decide +kernel
theorem dX8_finds_105 : decode cX8_finds 105 = .ok (.goto (-29), 3) := by decide +kernel
theorem dX8_finds_108 : decode cX8_finds 108 = .ok (.iconst 0, 1) := by decide +kernel
theorem dX8_finds_109 : decode cX8_finds 109 = .ok (.istore 5, 2) := by decide +kernel
theorem dX8_finds_111 : decode cX8_finds 111 = .ok (.iload 5, 2) := by decide +kernel
theorem dX8_finds_113 : decode cX8_finds 113 = .ok (.aload_n 0, 1) := by decide +kernel
theorem dX8_finds_114 : decode cX8_finds 114 = .ok (.getfield 211, 3) := by decide +kernel
theorem dX8_finds_117 : decode cX8_finds 117 = .ok (.if_icmp .ge 73, 3) := by decide +kernel
theorem dX8_finds_120 : decode cX8_finds 120 = .ok (.aload_n 0, 1) := by decide +kernel
theorem dX8_finds_121 : decode cX8_finds 121 = .ok (.getfield 73, 3) := by decide +kernel
theorem dX8_finds_124 : decode cX8_finds 124 = .ok (.iload 5, 2) := by decide +kernel
theorem dX8_finds_126 : decode cX8_finds 126 = .ok (.aload_n 0, 1) := by decide +kernel
theorem dX8_finds_127 : decode cX8_finds 127 = .ok (.iload 5, 2) := by decide +kernel
theorem dX8_finds_129 : decode cX8_finds 129 = .ok (.ifCond .ne 7, 3) := by decide +kernel
theorem dX8_finds_132 : decode cX8_finds 132 = .ok (.iconst 1, 1) := by decide +kernel
theorem dX8_finds_133 : decode cX8_finds 133 = .ok (.goto 4, 3) := by decide +kernel
theorem dX8_finds_136 : decode cX8_finds 136 = .ok (.iconst 0, 1) := by decide +kernel
theorem dX8_finds_137 : decode cX8_finds 137 = .ok (.iload_n 1, 1) := by decide +kernel
theorem dX8_finds_138 : decode cX8_finds 138 = .ok (.iload_n 3, 1) := by decide +kernel
theorem dX8_finds_139 : decode cX8_finds 139 = .ok (.iload 4, 2) := by decide +kernel
theorem dX8_finds_141 : decode cX8_finds 141 = .ok (.aload_n 0, 1) := by decide +kernel
theorem dX8_finds_142 : decode cX8_finds 142 = .ok (.getfield 211, 3) := by decide +kernel
theorem dX8_finds_145 : decode cX8_finds 145 = .ok (.iconst 1, 1) := by decide +kernel
theorem dX8_finds_146 : decode cX8_finds 146 = .ok (.isub, 1) := by decide +kernel
theorem dX8_finds_147 : decode cX8_finds 147 = .ok (.iload 5, 2) := by decide +kernel
theorem dX8_finds_149 : decode cX8_finds 149 = .ok (.isub, 1) := by decide +kernel
theorem dX8_finds_150 : decode cX8_finds 150 = .ok (.invokevirtual 214, 3) := by decide +kernel
theorem dX8_finds_153 : decode cX8_finds 153 = .ok (.iastore, 1) := by decide +kernel
theorem dX8_finds_154 : decode cX8_finds 154 = .ok (.iconst 0, 1) := by decide +kernel
theorem dX8_finds_155 : decode cX8_finds 155 = .ok (.istore 6, 2) := by decide +kernel
theorem dX8_finds_157 : decode cX8_finds 157 = .ok (.iload 6, 2) := by decide +kernel
theorem dX8_finds_159 : decode cX8_finds 159 = .ok (.bipush 70, 2) := by decide +kernel
theorem dX8_finds_161 : decode cX8_finds 161 = .ok (.if_icmp .ge 23, 3) := by decide +kernel
theorem dX8_finds_164 : decode cX8_finds 164 = .ok (.aload_n 0, 1) := by decide +kernel
theorem dX8_finds_165 : decode cX8_finds 165 = .ok (.getfield 82, 3) := by decide +kernel
theorem dX8_finds_168 : decode cX8_finds 168 = .ok (.iload 6, 2) := by decide +kernel
theorem dX8_finds_170 : decode cX8_finds 170 = .ok (.aload_n 0, 1) := by decide +kernel
theorem dX8_finds_171 : decode cX8_finds 171 = .ok (.getfield 85, 3) := by decide +kernel
theorem dX8_finds_174 : decode cX8_finds 174 = .ok (.iload 6, 2) := by decide +kernel
theorem dX8_finds_176 : decode cX8_finds 176 = .ok (.baload, 1) := by decide +kernel
theorem dX8_finds_177 : decode cX8_finds 177 = .ok (.bastore, 1) := by decide +kernel
theorem dX8_finds_178 : decode cX8_finds 178 = .ok (.iinc 6 1, 3) := by decide +kernel
theorem dX8_finds_181 : decode cX8_finds 181 = .ok (.goto (-24), 3) := by decide +kernel
theorem dX8_finds_184 : decode cX8_finds 184 = .ok (.iinc 5 1, 3) := by decide +kernel
theorem dX8_finds_187 : decode cX8_finds 187 = .ok (.goto (-76), 3) := by decide +kernel
theorem dX8_finds_190 : decode cX8_finds 190 = .ok (.iconst (-1), 1) := by decide +kernel
theorem dX8_finds_191 : decode cX8_finds 191 = .ok (.istore 5, 2) := by decide +kernel
theorem dX8_finds_193 : decode cX8_finds 193 = .ok (.iconst 0, 1) := by decide +kernel
theorem dX8_finds_194 : decode cX8_finds 194 = .ok (.istore 6, 2) := by decide +kernel
theorem dX8_finds_196 : decode cX8_finds 196 = .ok (.iload 6, 2) := by decide +kernel
theorem dX8_finds_198 : decode cX8_finds 198 = .ok (.aload_n 0, 1) := by decide +kernel
theorem dX8_finds_199 : decode cX8_finds 199 = .ok (.getfield 211, 3) := by decide +kernel
theorem dX8_finds_202 : decode cX8_finds 202 = .ok (.if_icmp .ge 168, 3) := by decide +kernel
theorem dX8_finds_205 : decode cX8_finds 205 = .ok (.aload_n 0, 1) := by decide +kernel
theorem dX8_finds_206 : decode cX8_finds 206 = .ok (.getfield 73, 3) := by decide +kernel
theorem dX8_finds_209 : decode cX8_finds 209 = .ok (.iload 6, 2) := by decide +kernel
theorem dX8_finds_211 : decode cX8_finds 211 = .ok (.iaload, 1) := by decide +kernel
theorem dX8_finds_212 : decode cX8_finds 212 = .ok (.istore 7, 2) := by decide +kernel
theorem dX8_finds_214 : decode cX8_finds 214 = .ok (.iconst (-1), 1) := by decide +kernel
theorem dX8_finds_215 : decode cX8_finds 215 = .ok (.istore 8, 2) := by decide +kernel
theorem dX8_finds_217 : decode cX8_finds 217 = .ok (.iconst 1, 1) := by decide +kernel
theorem dX8_finds_218 : decode cX8_finds 218 = .ok (.istore 9, 2) := by decide +kernel
theorem dX8_finds_220 : decode cX8_finds 220 = .ok (.iload 9, 2) := by decide +kernel
theorem dX8_finds_222 : decode cX8_finds 222 = .ok (.aload_n 0, 1) := by decide +kernel
theorem dX8_finds_223 : decode cX8_finds 223 = .ok (.getfield 17, 3) := by decide +kernel
theorem dX8_finds_226 : decode cX8_finds 226 = .ok (.iload 7, 2) := by decide +kernel
theorem dX8_finds_228 : decode cX8_finds 228 = .ok (.iaload, 1) := by decide +kernel
theorem dX8_finds_229 : decode cX8_finds 229 = .ok (.if_icmp .ge 96, 3) := by decide +kernel
theorem dX8_finds_232 : decode cX8_finds 232 = .ok (.bipush 7, 2) := by decide +kernel
theorem dX8_finds_234 : decode cX8_finds 234 = .ok (.iload 7, 2) := by decide +kernel
theorem dX8_finds_236 : decode cX8_finds 236 = .ok (.imul, 1) := by decide +kernel
theorem dX8_finds_237 : decode cX8_finds 237 = .ok (.iload 9, 2) := by decide +kernel
theorem dX8_finds_239 : decode cX8_finds 239 = .ok (.iadd, 1) := by decide +kernel
theorem dX8_finds_240 : decode cX8_finds 240 = .ok (.istore 10, 2) := by decide +kernel
theorem dX8_finds_242 : decode cX8_finds 242 = .ok (.aload_n 0, 1) := by decide +kernel
theorem dX8_finds_243 : decode cX8_finds 243 = .ok (.iload 7, 2) := by decide +kernel
theorem dX8_finds_245 : decode cX8_finds 245 = .ok (.iload 6, 2) := by decide +kernel
theorem dX8_finds_247 : decode cX8_finds 247 = .ok (.iload 5, 2) := by decide +kernel
theorem dX8_finds_249 : decode cX8_finds 249 = .ok (.iload_n 1, 1) := by decide +kernel
theorem dX8_finds_250 : decode cX8_finds 250 = .ok (.iload 4, 2) := by decide +kernel
theorem dX8_finds_252 : decode cX8_finds 252 = .ok (.invokevirtual 218, 3) := by decide +kernel
theorem dX8_finds_255 : decode cX8_finds 255 = .ok (.iload 9, 2) := by decide +kernel
theorem dX8_finds_257 : decode cX8_finds 257 = .ok (.if_icmp .ge 62, 3) := by decide +kernel
theorem dX8_finds_260 : decode cX8_finds 260 = .ok (.aload_n 0, 1) := by decide +kernel
theorem dX8_finds_261 : decode cX8_finds 261 = .ok (.iload 7, 2) := by decide +kernel
theorem dX8_finds_263 : decode cX8_finds 263 = .ok (.iload 6, 2) := by decide +kernel
theorem dX8_finds_265 : decode cX8_finds 265 = .ok (.iload 5, 2) := by decide +kernel
theorem dX8_finds_267 : decode cX8_finds 267 = .ok (.iload_n 1, 1) := by decide +kernel
theorem dX8_finds_268 : decode cX8_finds 268 = .ok (.iload 4, 2) := by decide +kernel
theorem dX8_finds_270 : decode cX8_finds 270 = .ok (.invokevirtual 218, 3) := by decide +kernel
theorem dX8_finds_273 : decode cX8_finds 273 = .ok (.iconst (-1), 1) := by decide +kernel
theorem dX8_finds_274 : decode cX8_finds 274 = .ok (.if_icmp .eq 45, 3) := by decide +kernel
theorem dX8_finds_277 : decode cX8_finds 277 = .ok (.aload_n 0, 1) := by decide +kernel
theorem dX8_finds_278 : decode cX8_finds 278 = .ok (.iload 10, 2) := by decide +kernel
theorem dX8_finds_280 : decode cX8_finds 280 = .ok (.iload 6, 2) := by decide +kernel
theorem dX8_finds_282 : decode cX8_finds 282 = .ok (.iload_n 2, 1) := by decide +kernel
theorem dX8_finds_283 : decode cX8_finds 283 = .ok (.invokevirtual 222, 3) := by decide +kernel
theorem dX8_finds_286 : decode cX8_finds 286 = .ok (.ifCond .ne 6, 3) := by decide +kernel
theorem dX8_finds_289 : decode cX8_finds 289 = .ok (.goto 30, 3) := by decide +kernel
theorem dX8_finds_292 : decode cX8_finds 292 = .ok (.iload 8, 2) := by decide +kernel
theorem dX8_finds_294 : decode cX8_finds 294 = .ok (.iconst (-1), 1) := by decide +kernel
theorem dX8_finds_295 : decode cX8_finds 295 = .ok (.if_icmp .eq 20, 3) := by decide +kernel
theorem dX8_finds_298 : decode cX8_finds 298 = .ok (.aload_n 0, 1) := by decide +kernel
theorem dX8_finds_299 : decode cX8_finds 299 = .ok (.getfield 20, 3) := by decide +kernel
theorem dX8_finds_302 : decode cX8_finds 302 = .ok (.iload 10, 2) := by decide +kernel
theorem dX8_finds_304 : decode cX8_finds 304 = .ok (.iaload, 1) := by decide +kernel
theorem dX8_finds_305 : decode cX8_finds 305 = .ok (.aload_n 0, 1) := by decide +kernel
theorem dX8_finds_306 : decode cX8_finds 306 = .ok (.getfield 20, 3) := by decide +kernel
theorem dX8_finds_309 : decode cX8_finds 309 = .ok (.iload 8, 2) := by decide +kernel
theorem dX8_finds_311 : decode cX8_finds 311 = .ok (.iaload, 1) := by decide +kernel
theorem dX8_finds_312 : decode cX8_finds 312 = .ok (.if_icmp .ge 7, 3) := by decide +kernel
theorem dX8_finds_315 : decode cX8_finds 315 = .ok (.iload 10, 2) := by decide +kernel
theorem dX8_finds_317 : decode cX8_finds 317 = .ok (.istore 8, 2) := by decide +kernel
theorem dX8_finds_319 : decode cX8_finds 319 = .ok (.iinc 9 1, 3) := by decide +kernel
theorem dX8_finds_322 : decode cX8_finds 322 = .ok (.goto (-102), 3) := by decide +kernel
theorem dX8_finds_325 : decode cX8_finds 325 = .ok (.aload_n 0, 1) := by decide +kernel
theorem dX8_finds_326 : decode cX8_finds 326 = .ok (.getfield 76, 3) := by decide +kernel
theorem dX8_finds_329 : decode cX8_finds 329 = .ok (.iload 6, 2) := by decide +kernel
theorem dX8_finds_331 : decode cX8_finds 331 = .ok (.bipush 7, 2) := by decide +kernel
theorem dX8_finds_333 : decode cX8_finds 333 = .ok (.iload 7, 2) := by decide +kernel
theorem dX8_finds_335 : decode cX8_finds 335 = .ok (.imul, 1) := by decide +kernel
theorem dX8_finds_336 : decode cX8_finds 336 = .ok (.aload_n 0, 1) := by decide +kernel
theorem dX8_finds_337 : decode cX8_finds 337 = .ok (.iload 7, 2) := by decide +kernel
theorem dX8_finds_339 : decode cX8_finds 339 = .ok (.iload 6, 2) := by decide +kernel
theorem dX8_finds_341 : decode cX8_finds 341 = .ok (.iload 5, 2) := by decide +kernel
theorem dX8_finds_343 : decode cX8_finds 343 = .ok (.iload_n 1, 1) := by decide +kernel
theorem dX8_finds_344 : decode cX8_finds 344 = .ok (.iload 4, 2) := by decide +kernel
theorem dX8_finds_346 : decode cX8_finds 346 = .ok (.invokevirtual 218, 3) := by decide +kernel
theorem dX8_finds_349 : decode cX8_finds 349 = .ok (.iadd, 1) := by decide +kernel
theorem dX8_finds_350 : decode cX8_finds 350 = .ok (.iastore, 1) := by decide +kernel
theorem dX8_finds_351 : decode cX8_finds 351 = .ok (.aload_n 0, 1) := by decide +kernel
theorem dX8_finds_352 : decode cX8_finds 352 = .ok (.getfield 79, 3) := by decide +kernel
theorem dX8_finds_355 : decode cX8_finds 355 = .ok (.iload 6, 2) := by decide +kernel
theorem dX8_finds_357 : decode cX8_finds 357 = .ok (.iload 8, 2) := by decide +kernel
theorem dX8_finds_359 : decode cX8_finds 359 = .ok (.iastore, 1) := by decide +kernel
theorem dX8_finds_360 : decode cX8_finds 360 = .ok (.iload 8, 2) := by decide +kernel
theorem dX8_finds_362 : decode cX8_finds 362 = .ok (.istore 5, 2) := by decide +kernel
theorem dX8_finds_364 : decode cX8_finds 364 = .ok (.iinc 6 1, 3) := by decide +kernel
theorem dX8_finds_367 : decode cX8_finds 367 = .ok (.goto (-171), 3) := by decide +kernel
theorem dX8_finds_370 : decode cX8_finds 370 = .ok (.iconst 1, 1) := by decide +kernel
theorem dX8_finds_371 : decode cX8_finds 371 = .ok (.ireturn, 1) := by decide +kernel
theorem dX8_boardOf_0 : decode cX8_boardOf 0 = .ok (.iconst 0, 1) := by decide +kernel
theorem dX8_boardOf_1 : decode cX8_boardOf 1 = .ok (.istore 6, 2) := by decide +kernel
theorem dX8_boardOf_3 : decode cX8_boardOf 3 = .ok (.iload 6, 2) := by decide +kernel
theorem dX8_boardOf_5 : decode cX8_boardOf 5 = .ok (.aload_n 0, 1) := by decide +kernel
theorem dX8_boardOf_6 : decode cX8_boardOf 6 = .ok (.getfield 17, 3) := by decide +kernel
theorem dX8_boardOf_9 : decode cX8_boardOf 9 = .ok (.iload_n 1, 1) := by decide +kernel
theorem dX8_boardOf_10 : decode cX8_boardOf 10 = .ok (.iaload, 1) := by decide +kernel
theorem dX8_boardOf_11 : decode cX8_boardOf 11 = .ok (.if_icmp .ge 62, 3) := by decide +kernel
theorem dX8_boardOf_14 : decode cX8_boardOf 14 = .ok (.bipush 7, 2) := by decide +kernel
theorem dX8_boardOf_16 : decode cX8_boardOf 16 = .ok (.iload_n 1, 1) := by decide +kernel
theorem dX8_boardOf_17 : decode cX8_boardOf 17 = .ok (.imul, 1) := by decide +kernel
theorem dX8_boardOf_18 : decode cX8_boardOf 18 = .ok (.iload 6, 2) := by decide +kernel
theorem dX8_boardOf_20 : decode cX8_boardOf 20 = .ok (.iadd, 1) := by decide +kernel
theorem dX8_boardOf_21 : decode cX8_boardOf 21 = .ok (.istore 7, 2) := by decide +kernel
theorem dX8_boardOf_23 : decode cX8_boardOf 23 = .ok (.iload_n 2, 1) := by decide +kernel
theorem dX8_boardOf_24 : decode cX8_boardOf 24 = .ok (.ifCond .ne 30, 3) := by decide +kernel
theorem dX8_boardOf_27 : decode cX8_boardOf 27 = .ok (.aload_n 0, 1) := by decide +kernel
theorem dX8_boardOf_28 : decode cX8_boardOf 28 = .ok (.getfield 20, 3) := by decide +kernel
theorem dX8_boardOf_31 : decode cX8_boardOf 31 = .ok (.iload 7, 2) := by decide +kernel
theorem dX8_boardOf_33 : decode cX8_boardOf 33 = .ok (.iaload, 1) := by decide +kernel
theorem dX8_boardOf_34 : decode cX8_boardOf 34 = .ok (.iload 4, 2) := by decide +kernel
theorem dX8_boardOf_36 : decode cX8_boardOf 36 = .ok (.if_icmp .ne 31, 3) := by decide +kernel
theorem dX8_boardOf_39 : decode cX8_boardOf 39 = .ok (.aload_n 0, 1) := by decide +kernel
theorem dX8_boardOf_40 : decode cX8_boardOf 40 = .ok (.getfield 26, 3) := by decide +kernel
theorem dX8_boardOf_43 : decode cX8_boardOf 43 = .ok (.iload 7, 2) := by decide +kernel
theorem dX8_boardOf_45 : decode cX8_boardOf 45 = .ok (.iaload, 1) := by decide +kernel
theorem dX8_boardOf_46 : decode cX8_boardOf 46 = .ok (.iload 5, 2) := by decide +kernel
theorem dX8_boardOf_48 : decode cX8_boardOf 48 = .ok (.if_icmp .lt 19, 3) := by decide +kernel
theorem dX8_boardOf_51 : decode cX8_boardOf 51 = .ok (.goto 13, 3) := by decide +kernel
theorem dX8_boardOf_54 : decode cX8_boardOf 54 = .ok (.aload_n 0, 1) := by decide +kernel
theorem dX8_boardOf_55 : decode cX8_boardOf 55 = .ok (.iload_n 3, 1) := by decide +kernel
theorem dX8_boardOf_56 : decode cX8_boardOf 56 = .ok (.iload 7, 2) := by decide +kernel
theorem dX8_boardOf_58 : decode cX8_boardOf 58 = .ok (.invokevirtual 182, 3) := by decide +kernel
theorem dX8_boardOf_61 : decode cX8_boardOf 61 = .ok (.ifCond .eq 6, 3) := by decide +kernel
theorem dX8_boardOf_64 : decode cX8_boardOf 64 = .ok (.iload 6, 2) := by decide +kernel
theorem dX8_boardOf_66 : decode cX8_boardOf 66 = .ok (.ireturn, 1) := by decide +kernel
theorem dX8_boardOf_67 : decode cX8_boardOf 67 = .ok (.iinc 6 1, 3) := by decide +kernel
theorem dX8_boardOf_70 : decode cX8_boardOf 70 = .ok (.goto (-67), 3) := by decide +kernel
theorem dX8_boardOf_73 : decode cX8_boardOf 73 = .ok (.iconst (-1), 1) := by decide +kernel
theorem dX8_boardOf_74 : decode cX8_boardOf 74 = .ok (.ireturn, 1) := by decide +kernel
theorem dX8_restGoes_0 : decode cX8_restGoes 0 = .ok (.iconst 0, 1) := by decide +kernel
theorem dX8_restGoes_1 : decode cX8_restGoes 1 = .ok (.istore 4, 2) := by decide +kernel
theorem dX8_restGoes_3 : decode cX8_restGoes 3 = .ok (.iload 4, 2) := by decide +kernel
theorem dX8_restGoes_5 : decode cX8_restGoes 5 = .ok (.bipush 70, 2) := by decide +kernel
theorem dX8_restGoes_7 : decode cX8_restGoes 7 = .ok (.if_icmp .ge 27, 3) := by decide +kernel
theorem dX8_restGoes_10 : decode cX8_restGoes 10 = .ok (.aload_n 0, 1) := by decide +kernel
theorem dX8_restGoes_11 : decode cX8_restGoes 11 = .ok (.getfield 88, 3) := by decide +kernel
theorem dX8_restGoes_14 : decode cX8_restGoes 14 = .ok (.iload 4, 2) := by decide +kernel
theorem dX8_restGoes_16 : decode cX8_restGoes 16 = .ok (.iload 4, 2) := by decide +kernel
theorem dX8_restGoes_18 : decode cX8_restGoes 18 = .ok (.iload_n 1, 1) := by decide +kernel
theorem dX8_restGoes_19 : decode cX8_restGoes 19 = .ok (.if_icmp .ne 7, 3) := by decide +kernel
theorem dX8_restGoes_22 : decode cX8_restGoes 22 = .ok (.iconst 1, 1) := by decide +kernel
theorem dX8_restGoes_23 : decode cX8_restGoes 23 = .ok (.goto 4, 3) := by decide +kernel
theorem dX8_restGoes_26 : decode cX8_restGoes 26 = .ok (.iconst 0, 1) := by decide +kernel
theorem dX8_restGoes_27 : decode cX8_restGoes 27 = .ok (.bastore, 1) := by decide +kernel
theorem dX8_restGoes_28 : decode cX8_restGoes 28 = .ok (.iinc 4 1, 3) := by decide +kernel
theorem dX8_restGoes_31 : decode cX8_restGoes 31 = .ok (.goto (-28), 3) := by decide +kernel
theorem dX8_restGoes_34 : decode cX8_restGoes 34 = .ok (.iload_n 2, 1) := by decide +kernel
theorem dX8_restGoes_35 : decode cX8_restGoes 35 = .ok (.iconst 1, 1) := by decide +kernel
theorem dX8_restGoes_36 : decode cX8_restGoes 36 = .ok (.iadd, 1) := by decide +kernel
theorem dX8_restGoes_37 : decode cX8_restGoes 37 = .ok (.istore 4, 2) := by decide +kernel
theorem dX8_restGoes_39 : decode cX8_restGoes 39 = .ok (.iload 4, 2) := by decide +kernel
theorem dX8_restGoes_41 : decode cX8_restGoes 41 = .ok (.aload_n 0, 1) := by decide +kernel
theorem dX8_restGoes_42 : decode cX8_restGoes 42 = .ok (.getfield 211, 3) := by decide +kernel
theorem dX8_restGoes_45 : decode cX8_restGoes 45 = .ok (.if_icmp .ge 181, 3) := by decide +kernel
theorem dX8_restGoes_48 : decode cX8_restGoes 48 = .ok (.aload_n 0, 1) := by decide +kernel
theorem dX8_restGoes_49 : decode cX8_restGoes 49 = .ok (.getfield 73, 3) := by decide +kernel
theorem dX8_restGoes_52 : decode cX8_restGoes 52 = .ok (.iload 4, 2) := by decide +kernel
theorem dX8_restGoes_54 : decode cX8_restGoes 54 = .ok (.iaload, 1) := by decide +kernel
theorem dX8_restGoes_55 : decode cX8_restGoes 55 = .ok (.istore 5, 2) := by decide +kernel
theorem dX8_restGoes_57 : decode cX8_restGoes 57 = .ok (.iconst 0, 1) := by decide +kernel
theorem dX8_restGoes_58 : decode cX8_restGoes 58 = .ok (.istore 6, 2) := by decide +kernel
theorem dX8_restGoes_60 : decode cX8_restGoes 60 = .ok (.iconst 0, 1) := by decide +kernel
theorem dX8_restGoes_61 : decode cX8_restGoes 61 = .ok (.istore 7, 2) := by decide +kernel
theorem dX8_restGoes_63 : decode cX8_restGoes 63 = .ok (.iconst 0, 1) := by decide +kernel
theorem dX8_restGoes_64 : decode cX8_restGoes 64 = .ok (.istore 8, 2) := by decide +kernel
theorem dX8_restGoes_66 : decode cX8_restGoes 66 = .ok (.iload 8, 2) := by decide +kernel
theorem dX8_restGoes_68 : decode cX8_restGoes 68 = .ok (.bipush 70, 2) := by decide +kernel
theorem dX8_restGoes_70 : decode cX8_restGoes 70 = .ok (.if_icmp .ge 17, 3) := by decide +kernel
theorem dX8_restGoes_73 : decode cX8_restGoes 73 = .ok (.aload_n 0, 1) := by decide +kernel
theorem dX8_restGoes_74 : decode cX8_restGoes 74 = .ok (.getfield 85, 3) := by decide +kernel
theorem dX8_restGoes_77 : decode cX8_restGoes 77 = .ok (.iload 8, 2) := by decide +kernel
theorem dX8_restGoes_79 : decode cX8_restGoes 79 = .ok (.iconst 0, 1) := by decide +kernel
theorem dX8_restGoes_80 : decode cX8_restGoes 80 = .ok (.bastore, 1) := by decide +kernel
theorem dX8_restGoes_81 : decode cX8_restGoes 81 = .ok (.iinc 8 1, 3) := by decide +kernel
theorem dX8_restGoes_84 : decode cX8_restGoes 84 = .ok (.goto (-18), 3) := by decide +kernel
theorem dX8_restGoes_87 : decode cX8_restGoes 87 = .ok (.iconst 0, 1) := by decide +kernel
theorem dX8_restGoes_88 : decode cX8_restGoes 88 = .ok (.istore 8, 2) := by decide +kernel
theorem dX8_restGoes_90 : decode cX8_restGoes 90 = .ok (.iload 8, 2) := by decide +kernel
theorem dX8_restGoes_92 : decode cX8_restGoes 92 = .ok (.aload_n 0, 1) := by decide +kernel
theorem dX8_restGoes_93 : decode cX8_restGoes 93 = .ok (.getfield 17, 3) := by decide +kernel
theorem dX8_restGoes_96 : decode cX8_restGoes 96 = .ok (.iload 5, 2) := by decide +kernel
theorem dX8_restGoes_98 : decode cX8_restGoes 98 = .ok (.iaload, 1) := by decide +kernel
theorem dX8_restGoes_99 : decode cX8_restGoes 99 = .ok (.if_icmp .ge 84, 3) := by decide +kernel
theorem dX8_restGoes_102 : decode cX8_restGoes 102 = .ok (.bipush 7, 2) := by decide +kernel
theorem dX8_restGoes_104 : decode cX8_restGoes 104 = .ok (.iload 5, 2) := by decide +kernel
theorem dX8_restGoes_106 : decode cX8_restGoes 106 = .ok (.imul, 1) := by decide +kernel
theorem dX8_restGoes_107 : decode cX8_restGoes 107 = .ok (.iload 8, 2) := by decide +kernel
theorem dX8_restGoes_109 : decode cX8_restGoes 109 = .ok (.iadd, 1) := by decide +kernel
theorem dX8_restGoes_110 : decode cX8_restGoes 110 = .ok (.istore 9, 2) := by decide +kernel
theorem dX8_restGoes_112 : decode cX8_restGoes 112 = .ok (.iload 6, 2) := by decide +kernel
theorem dX8_restGoes_114 : decode cX8_restGoes 114 = .ok (.ifCond .eq 14, 3) := by decide +kernel
theorem dX8_restGoes_117 : decode cX8_restGoes 117 = .ok (.aload_n 0, 1) := by decide +kernel
theorem dX8_restGoes_118 : decode cX8_restGoes 118 = .ok (.getfield 85, 3) := by decide +kernel
theorem dX8_restGoes_121 : decode cX8_restGoes 121 = .ok (.iload 9, 2) := by decide +kernel
theorem dX8_restGoes_123 : decode cX8_restGoes 123 = .ok (.iconst 1, 1) := by decide +kernel
theorem dX8_restGoes_124 : decode cX8_restGoes 124 = .ok (.bastore, 1) := by decide +kernel
theorem dX8_restGoes_125 : decode cX8_restGoes 125 = .ok (.iconst 1, 1) := by decide +kernel
theorem dX8_restGoes_126 : decode cX8_restGoes 126 = .ok (.istore 7, 2) := by decide +kernel
theorem dX8_restGoes_128 : decode cX8_restGoes 128 = .ok (.iconst 0, 1) := by decide +kernel
theorem dX8_restGoes_129 : decode cX8_restGoes 129 = .ok (.istore 10, 2) := by decide +kernel
theorem dX8_restGoes_131 : decode cX8_restGoes 131 = .ok (.iload 10, 2) := by decide +kernel
theorem dX8_restGoes_133 : decode cX8_restGoes 133 = .ok (.bipush 70, 2) := by decide +kernel
theorem dX8_restGoes_135 : decode cX8_restGoes 135 = .ok (.if_icmp .ge 42, 3) := by decide +kernel
theorem dX8_restGoes_138 : decode cX8_restGoes 138 = .ok (.iload 6, 2) := by decide +kernel
theorem dX8_restGoes_140 : decode cX8_restGoes 140 = .ok (.ifCond .ne 37, 3) := by decide +kernel
theorem dX8_restGoes_143 : decode cX8_restGoes 143 = .ok (.aload_n 0, 1) := by decide +kernel
theorem dX8_restGoes_144 : decode cX8_restGoes 144 = .ok (.getfield 88, 3) := by decide +kernel
theorem dX8_restGoes_147 : decode cX8_restGoes 147 = .ok (.iload 10, 2) := by decide +kernel
theorem dX8_restGoes_149 : decode cX8_restGoes 149 = .ok (.baload, 1) := by decide +kernel
theorem dX8_restGoes_150 : decode cX8_restGoes 150 = .ok (.ifCond .eq 18, 3) := by decide +kernel
theorem dX8_restGoes_153 : decode cX8_restGoes 153 = .ok (.aload_n 0, 1) := by decide +kernel
theorem dX8_restGoes_154 : decode cX8_restGoes 154 = .ok (.iload 10, 2) := by decide +kernel
theorem dX8_restGoes_156 : decode cX8_restGoes 156 = .ok (.iload 9, 2) := by decide +kernel
theorem dX8_restGoes_158 : decode cX8_restGoes 158 = .ok (.invokevirtual 182, 3) := by decide +kernel
theorem dX8_restGoes_161 : decode cX8_restGoes 161 = .ok (.ifCond .eq 7, 3) := by decide +kernel
theorem dX8_restGoes_164 : decode cX8_restGoes 164 = .ok (.iconst 1, 1) := by decide +kernel
theorem dX8_restGoes_165 : decode cX8_restGoes 165 = .ok (.goto 4, 3) := by decide +kernel
theorem dX8_restGoes_168 : decode cX8_restGoes 168 = .ok (.iconst 0, 1) := by decide +kernel
theorem dX8_restGoes_169 : decode cX8_restGoes 169 = .ok (.istore 6, 2) := by decide +kernel
theorem dX8_restGoes_171 : decode cX8_restGoes 171 = .ok (.iinc 10 1, 3) := by decide +kernel
theorem dX8_restGoes_174 : decode cX8_restGoes 174 = .ok (.goto (-43), 3) := by decide +kernel
theorem dX8_restGoes_177 : decode cX8_restGoes 177 = .ok (.iinc 8 1, 3) := by decide +kernel
theorem dX8_restGoes_180 : decode cX8_restGoes 180 = .ok (.goto (-90), 3) := by decide +kernel
theorem dX8_restGoes_183 : decode cX8_restGoes 183 = .ok (.iload 7, 2) := by decide +kernel
theorem dX8_restGoes_185 : decode cX8_restGoes 185 = .ok (.ifCond .ne 5, 3) := by decide +kernel
theorem dX8_restGoes_188 : decode cX8_restGoes 188 = .ok (.iconst 0, 1) := by decide +kernel
theorem dX8_restGoes_189 : decode cX8_restGoes 189 = .ok (.ireturn, 1) := by decide +kernel
theorem dX8_restGoes_190 : decode cX8_restGoes 190 = .ok (.iconst 0, 1) := by decide +kernel
theorem dX8_restGoes_191 : decode cX8_restGoes 191 = .ok (.istore 8, 2) := by decide +kernel
theorem dX8_restGoes_193 : decode cX8_restGoes 193 = .ok (.iload 8, 2) := by decide +kernel
theorem dX8_restGoes_195 : decode cX8_restGoes 195 = .ok (.bipush 70, 2) := by decide +kernel
theorem dX8_restGoes_197 : decode cX8_restGoes 197 = .ok (.if_icmp .ge 23, 3) := by decide +kernel
theorem dX8_restGoes_200 : decode cX8_restGoes 200 = .ok (.aload_n 0, 1) := by decide +kernel
theorem dX8_restGoes_201 : decode cX8_restGoes 201 = .ok (.getfield 88, 3) := by decide +kernel
theorem dX8_restGoes_204 : decode cX8_restGoes 204 = .ok (.iload 8, 2) := by decide +kernel
theorem dX8_restGoes_206 : decode cX8_restGoes 206 = .ok (.aload_n 0, 1) := by decide +kernel
theorem dX8_restGoes_207 : decode cX8_restGoes 207 = .ok (.getfield 85, 3) := by decide +kernel
theorem dX8_restGoes_210 : decode cX8_restGoes 210 = .ok (.iload 8, 2) := by decide +kernel
theorem dX8_restGoes_212 : decode cX8_restGoes 212 = .ok (.baload, 1) := by decide +kernel
theorem dX8_restGoes_213 : decode cX8_restGoes 213 = .ok (.bastore, 1) := by decide +kernel
theorem dX8_restGoes_214 : decode cX8_restGoes 214 = .ok (.iinc 8 1, 3) := by decide +kernel
theorem dX8_restGoes_217 : decode cX8_restGoes 217 = .ok (.goto (-24), 3) := by decide +kernel
theorem dX8_restGoes_220 : decode cX8_restGoes 220 = .ok (.iinc 4 1, 3) := by decide +kernel
theorem dX8_restGoes_223 : decode cX8_restGoes 223 = .ok (.goto (-184), 3) := by decide +kernel
theorem dX8_restGoes_226 : decode cX8_restGoes 226 = .ok (.iconst 0, 1) := by decide +kernel
theorem dX8_restGoes_227 : decode cX8_restGoes 227 = .ok (.istore 4, 2) := by decide +kernel
theorem dX8_restGoes_229 : decode cX8_restGoes 229 = .ok (.iload 4, 2) := by decide +kernel
theorem dX8_restGoes_231 : decode cX8_restGoes 231 = .ok (.bipush 70, 2) := by decide +kernel
theorem dX8_restGoes_233 : decode cX8_restGoes 233 = .ok (.if_icmp .ge 46, 3) := by decide +kernel
theorem dX8_restGoes_236 : decode cX8_restGoes 236 = .ok (.aload_n 0, 1) := by decide +kernel
theorem dX8_restGoes_237 : decode cX8_restGoes 237 = .ok (.getfield 88, 3) := by decide +kernel
theorem dX8_restGoes_240 : decode cX8_restGoes 240 = .ok (.iload 4, 2) := by decide +kernel
theorem dX8_restGoes_242 : decode cX8_restGoes 242 = .ok (.baload, 1) := by decide +kernel
theorem dX8_restGoes_243 : decode cX8_restGoes 243 = .ok (.ifCond .eq 30, 3) := by decide +kernel
theorem dX8_restGoes_246 : decode cX8_restGoes 246 = .ok (.aload_n 0, 1) := by decide +kernel
theorem dX8_restGoes_247 : decode cX8_restGoes 247 = .ok (.getfield 20, 3) := by decide +kernel
theorem dX8_restGoes_250 : decode cX8_restGoes 250 = .ok (.iload 4, 2) := by decide +kernel
theorem dX8_restGoes_252 : decode cX8_restGoes 252 = .ok (.iaload, 1) := by decide +kernel
theorem dX8_restGoes_253 : decode cX8_restGoes 253 = .ok (.iload_n 3, 1) := by decide +kernel
theorem dX8_restGoes_254 : decode cX8_restGoes 254 = .ok (.if_icmp .ne 19, 3) := by decide +kernel
theorem dX8_restGoes_257 : decode cX8_restGoes 257 = .ok (.aload_n 0, 1) := by decide +kernel
theorem dX8_restGoes_258 : decode cX8_restGoes 258 = .ok (.getfield 23, 3) := by decide +kernel
theorem dX8_restGoes_261 : decode cX8_restGoes 261 = .ok (.iload 4, 2) := by decide +kernel
theorem dX8_restGoes_263 : decode cX8_restGoes 263 = .ok (.iaload, 1) := by decide +kernel
theorem dX8_restGoes_264 : decode cX8_restGoes 264 = .ok (.aload_n 0, 1) := by decide +kernel
theorem dX8_restGoes_265 : decode cX8_restGoes 265 = .ok (.getfield 189, 3) := by decide +kernel
theorem dX8_restGoes_268 : decode cX8_restGoes 268 = .ok (.if_icmp .ne 5, 3) := by decide +kernel
theorem dX8_restGoes_271 : decode cX8_restGoes 271 = .ok (.iconst 1, 1) := by decide +kernel
theorem dX8_restGoes_272 : decode cX8_restGoes 272 = .ok (.ireturn, 1) := by decide +kernel
theorem dX8_restGoes_273 : decode cX8_restGoes 273 = .ok (.iinc 4 1, 3) := by decide +kernel
theorem dX8_restGoes_276 : decode cX8_restGoes 276 = .ok (.goto (-47), 3) := by decide +kernel
theorem dX8_restGoes_279 : decode cX8_restGoes 279 = .ok (.iconst 0, 1) := by decide +kernel
theorem dX8_restGoes_280 : decode cX8_restGoes 280 = .ok (.ireturn, 1) := by decide +kernel
theorem dX8_way_0 : decode cX8_way 0 = .ok (.aload_n 0, 1) := by decide +kernel
theorem dX8_way_1 : decode cX8_way 1 = .ok (.iconst 0, 1) := by decide +kernel
theorem dX8_way_2 : decode cX8_way 2 = .ok (.putfield 94, 3) := by decide +kernel
theorem dX8_way_5 : decode cX8_way 5 = .ok (.aload_n 0, 1) := by decide +kernel
theorem dX8_way_6 : decode cX8_way 6 = .ok (.iload_n 1, 1) := by decide +kernel
theorem dX8_way_7 : decode cX8_way 7 = .ok (.iload_n 2, 1) := by decide +kernel
theorem dX8_way_8 : decode cX8_way 8 = .ok (.iload_n 3, 1) := by decide +kernel
theorem dX8_way_9 : decode cX8_way 9 = .ok (.iload 4, 2) := by decide +kernel
theorem dX8_way_11 : decode cX8_way 11 = .ok (.invokevirtual 225, 3) := by decide +kernel
theorem dX8_way_14 : decode cX8_way 14 = .ok (.ifCond .eq 8, 3) := by decide +kernel
theorem dX8_way_17 : decode cX8_way 17 = .ok (.iload 5, 2) := by decide +kernel
theorem dX8_way_19 : decode cX8_way 19 = .ok (.ifCond .ge 5, 3) := by decide +kernel
theorem dX8_way_22 : decode cX8_way 22 = .ok (.iconst (-1), 1) := by decide +kernel
theorem dX8_way_23 : decode cX8_way 23 = .ok (.ireturn, 1) := by decide +kernel
theorem dX8_way_24 : decode cX8_way 24 = .ok (.iload 5, 2) := by decide +kernel
theorem dX8_way_26 : decode cX8_way 26 = .ok (.ifCond .ne 8, 3) := by decide +kernel
theorem dX8_way_29 : decode cX8_way 29 = .ok (.aload_n 0, 1) := by decide +kernel
theorem dX8_way_30 : decode cX8_way 30 = .ok (.getfield 189, 3) := by decide +kernel
theorem dX8_way_33 : decode cX8_way 33 = .ok (.ireturn, 1) := by decide +kernel
theorem dX8_way_34 : decode cX8_way 34 = .ok (.iload 5, 2) := by decide +kernel
theorem dX8_way_36 : decode cX8_way 36 = .ok (.iconst 1, 1) := by decide +kernel
theorem dX8_way_37 : decode cX8_way 37 = .ok (.if_icmp .ne 8, 3) := by decide +kernel
theorem dX8_way_40 : decode cX8_way 40 = .ok (.aload_n 0, 1) := by decide +kernel
theorem dX8_way_41 : decode cX8_way 41 = .ok (.getfield 211, 3) := by decide +kernel
theorem dX8_way_44 : decode cX8_way 44 = .ok (.ireturn, 1) := by decide +kernel
theorem dX8_way_45 : decode cX8_way 45 = .ok (.iload 5, 2) := by decide +kernel
theorem dX8_way_47 : decode cX8_way 47 = .ok (.iconst 2, 1) := by decide +kernel
theorem dX8_way_48 : decode cX8_way 48 = .ok (.if_icmp .ne 15, 3) := by decide +kernel
theorem dX8_way_51 : decode cX8_way 51 = .ok (.aload_n 0, 1) := by decide +kernel
theorem dX8_way_52 : decode cX8_way 52 = .ok (.getfield 26, 3) := by decide +kernel
theorem dX8_way_55 : decode cX8_way 55 = .ok (.aload_n 0, 1) := by decide +kernel
theorem dX8_way_56 : decode cX8_way 56 = .ok (.getfield 76, 3) := by decide +kernel
theorem dX8_way_59 : decode cX8_way 59 = .ok (.iconst 0, 1) := by decide +kernel
theorem dX8_way_60 : decode cX8_way 60 = .ok (.iaload, 1) := by decide +kernel
theorem dX8_way_61 : decode cX8_way 61 = .ok (.iaload, 1) := by decide +kernel
theorem dX8_way_62 : decode cX8_way 62 = .ok (.ireturn, 1) := by decide +kernel
theorem dX8_way_63 : decode cX8_way 63 = .ok (.iload 5, 2) := by decide +kernel
theorem dX8_way_65 : decode cX8_way 65 = .ok (.bipush 10, 2) := by decide +kernel
theorem dX8_way_67 : decode cX8_way 67 = .ok (.idiv, 1) := by decide +kernel
theorem dX8_way_68 : decode cX8_way 68 = .ok (.iconst 1, 1) := by decide +kernel
theorem dX8_way_69 : decode cX8_way 69 = .ok (.isub, 1) := by decide +kernel
theorem dX8_way_70 : decode cX8_way 70 = .ok (.istore 6, 2) := by decide +kernel
theorem dX8_way_72 : decode cX8_way 72 = .ok (.iload 5, 2) := by decide +kernel
theorem dX8_way_74 : decode cX8_way 74 = .ok (.bipush 10, 2) := by decide +kernel
theorem dX8_way_76 : decode cX8_way 76 = .ok (.irem, 1) := by decide +kernel
theorem dX8_way_77 : decode cX8_way 77 = .ok (.istore 7, 2) := by decide +kernel
theorem dX8_way_79 : decode cX8_way 79 = .ok (.iload 6, 2) := by decide +kernel
theorem dX8_way_81 : decode cX8_way 81 = .ok (.ifCond .lt 18, 3) := by decide +kernel
theorem dX8_way_84 : decode cX8_way 84 = .ok (.iload 6, 2) := by decide +kernel
theorem dX8_way_86 : decode cX8_way 86 = .ok (.aload_n 0, 1) := by decide +kernel
theorem dX8_way_87 : decode cX8_way 87 = .ok (.getfield 211, 3) := by decide +kernel
theorem dX8_way_90 : decode cX8_way 90 = .ok (.if_icmp .ge 9, 3) := by decide +kernel
theorem dX8_way_93 : decode cX8_way 93 = .ok (.iload 7, 2) := by decide +kernel
theorem dX8_way_95 : decode cX8_way 95 = .ok (.iconst 4, 1) := by decide +kernel
theorem dX8_way_96 : decode cX8_way 96 = .ok (.if_icmp .le 5, 3) := by decide +kernel
theorem dX8_way_99 : decode cX8_way 99 = .ok (.iconst (-1), 1) := by decide +kernel
theorem dX8_way_100 : decode cX8_way 100 = .ok (.ireturn, 1) := by decide +kernel
theorem dX8_way_101 : decode cX8_way 101 = .ok (.iload 7, 2) := by decide +kernel
theorem dX8_way_103 : decode cX8_way 103 = .ok (.ifCond .ne 11, 3) := by decide +kernel
theorem dX8_way_106 : decode cX8_way 106 = .ok (.aload_n 0, 1) := by decide +kernel
theorem dX8_way_107 : decode cX8_way 107 = .ok (.getfield 73, 3) := by decide +kernel
theorem dX8_way_110 : decode cX8_way 110 = .ok (.iload 6, 2) := by decide +kernel
theorem dX8_way_112 : decode cX8_way 112 = .ok (.iaload, 1) := by decide +kernel
theorem dX8_way_113 : decode cX8_way 113 = .ok (.ireturn, 1) := by decide +kernel
theorem dX8_way_114 : decode cX8_way 114 = .ok (.iload 7, 2) := by decide +kernel
theorem dX8_way_116 : decode cX8_way 116 = .ok (.iconst 1, 1) := by decide +kernel
theorem dX8_way_117 : decode cX8_way 117 = .ok (.if_icmp .ne 16, 3) := by decide +kernel
theorem dX8_way_120 : decode cX8_way 120 = .ok (.aload_n 0, 1) := by decide +kernel
theorem dX8_way_121 : decode cX8_way 121 = .ok (.getfield 20, 3) := by decide +kernel
theorem dX8_way_124 : decode cX8_way 124 = .ok (.aload_n 0, 1) := by decide +kernel
theorem dX8_way_125 : decode cX8_way 125 = .ok (.getfield 76, 3) := by decide +kernel
theorem dX8_way_128 : decode cX8_way 128 = .ok (.iload 6, 2) := by decide +kernel
theorem dX8_way_130 : decode cX8_way 130 = .ok (.iaload, 1) := by decide +kernel
theorem dX8_way_131 : decode cX8_way 131 = .ok (.iaload, 1) := by decide +kernel
theorem dX8_way_132 : decode cX8_way 132 = .ok (.ireturn, 1) := by decide +kernel
theorem dX8_way_133 : decode cX8_way 133 = .ok (.iload 7, 2) := by decide +kernel
theorem dX8_way_135 : decode cX8_way 135 = .ok (.iconst 2, 1) := by decide +kernel
theorem dX8_way_136 : decode cX8_way 136 = .ok (.if_icmp .ne 16, 3) := by decide +kernel
theorem dX8_way_139 : decode cX8_way 139 = .ok (.aload_n 0, 1) := by decide +kernel
theorem dX8_way_140 : decode cX8_way 140 = .ok (.getfield 20, 3) := by decide +kernel
theorem dX8_way_143 : decode cX8_way 143 = .ok (.aload_n 0, 1) := by decide +kernel
theorem dX8_way_144 : decode cX8_way 144 = .ok (.getfield 79, 3) := by decide +kernel
theorem dX8_way_147 : decode cX8_way 147 = .ok (.iload 6, 2) := by decide +kernel
theorem dX8_way_149 : decode cX8_way 149 = .ok (.iaload, 1) := by decide +kernel
theorem dX8_way_150 : decode cX8_way 150 = .ok (.iaload, 1) := by decide +kernel
theorem dX8_way_151 : decode cX8_way 151 = .ok (.ireturn, 1) := by decide +kernel
theorem dX8_way_152 : decode cX8_way 152 = .ok (.iload 7, 2) := by decide +kernel
theorem dX8_way_154 : decode cX8_way 154 = .ok (.iconst 3, 1) := by decide +kernel
theorem dX8_way_155 : decode cX8_way 155 = .ok (.if_icmp .ne 18, 3) := by decide +kernel
theorem dX8_way_158 : decode cX8_way 158 = .ok (.aload_n 0, 1) := by decide +kernel
theorem dX8_way_159 : decode cX8_way 159 = .ok (.getfield 26, 3) := by decide +kernel
theorem dX8_way_162 : decode cX8_way 162 = .ok (.aload_n 0, 1) := by decide +kernel
theorem dX8_way_163 : decode cX8_way 163 = .ok (.getfield 76, 3) := by decide +kernel
theorem dX8_way_166 : decode cX8_way 166 = .ok (.iload 6, 2) := by decide +kernel
theorem dX8_way_168 : decode cX8_way 168 = .ok (.iaload, 1) := by decide +kernel
theorem dX8_way_169 : decode cX8_way 169 = .ok (.iaload, 1) := by decide +kernel
theorem dX8_way_170 : decode cX8_way 170 = .ok (.goto 15, 3) := by decide +kernel
theorem dX8_way_173 : decode cX8_way 173 = .ok (.aload_n 0, 1) := by decide +kernel
theorem dX8_way_174 : decode cX8_way 174 = .ok (.getfield 23, 3) := by decide +kernel
theorem dX8_way_177 : decode cX8_way 177 = .ok (.aload_n 0, 1) := by decide +kernel
theorem dX8_way_178 : decode cX8_way 178 = .ok (.getfield 79, 3) := by decide +kernel
theorem dX8_way_181 : decode cX8_way 181 = .ok (.iload 6, 2) := by decide +kernel
theorem dX8_way_183 : decode cX8_way 183 = .ok (.iaload, 1) := by decide +kernel
theorem dX8_way_184 : decode cX8_way 184 = .ok (.iaload, 1) := by decide +kernel
theorem dX8_way_185 : decode cX8_way 185 = .ok (.ireturn, 1) := by decide +kernel
theorem dX8_findDepartures_0 : decode cX8_findDepartures 0 = .ok (.aload_n 0, 1) := by decide +kernel
theorem dX8_findDepartures_1 : decode cX8_findDepartures 1 = .ok (.iconst 0, 1) := by decide +kernel
theorem dX8_findDepartures_2 : decode cX8_findDepartures 2 = .ok (.putfield 228, 3) := by decide +kernel
theorem dX8_findDepartures_5 : decode cX8_findDepartures 5 = .ok (.iconst 0, 1) := by decide +kernel
theorem dX8_findDepartures_6 : decode cX8_findDepartures 6 = .ok (.istore 4, 2) := by decide +kernel
theorem dX8_findDepartures_8 : decode cX8_findDepartures 8 = .ok (.iload 4, 2) := by decide +kernel
theorem dX8_findDepartures_10 : decode cX8_findDepartures 10 = .ok (.sipush 1440, 3) := by decide +kernel
theorem dX8_findDepartures_13 : decode cX8_findDepartures 13 = .ok (.if_icmp .ge 104, 3) := by decide +kernel
theorem dX8_findDepartures_16 : decode cX8_findDepartures 16 = .ok (.aload_n 0, 1) := by decide +kernel
theorem dX8_findDepartures_17 : decode cX8_findDepartures 17 = .ok (.iload_n 1, 1) := by decide +kernel
theorem dX8_findDepartures_18 : decode cX8_findDepartures 18 = .ok (.iload_n 3, 1) := by decide +kernel
theorem dX8_findDepartures_19 : decode cX8_findDepartures 19 = .ok (.iload 4, 2) := by decide +kernel
theorem dX8_findDepartures_21 : decode cX8_findDepartures 21 = .ok (.invokevirtual 231, 3) := by decide +kernel
theorem dX8_findDepartures_24 : decode cX8_findDepartures 24 = .ok (.ifCond .ne 6, 3) := by decide +kernel
theorem dX8_findDepartures_27 : decode cX8_findDepartures 27 = .ok (.goto 84, 3) := by decide +kernel
theorem dX8_findDepartures_30 : decode cX8_findDepartures 30 = .ok (.aload_n 0, 1) := by decide +kernel
theorem dX8_findDepartures_31 : decode cX8_findDepartures 31 = .ok (.iload_n 1, 1) := by decide +kernel
theorem dX8_findDepartures_32 : decode cX8_findDepartures 32 = .ok (.iload_n 2, 1) := by decide +kernel
theorem dX8_findDepartures_33 : decode cX8_findDepartures 33 = .ok (.iload_n 3, 1) := by decide +kernel
theorem dX8_findDepartures_34 : decode cX8_findDepartures 34 = .ok (.iload 4, 2) := by decide +kernel
theorem dX8_findDepartures_36 : decode cX8_findDepartures 36 = .ok (.invokevirtual 204, 3) := by decide +kernel
theorem dX8_findDepartures_39 : decode cX8_findDepartures 39 = .ok (.istore 5, 2) := by decide +kernel
theorem dX8_findDepartures_41 : decode cX8_findDepartures 41 = .ok (.iload 4, 2) := by decide +kernel
theorem dX8_findDepartures_43 : decode cX8_findDepartures 43 = .ok (.iconst 1, 1) := by decide +kernel
theorem dX8_findDepartures_44 : decode cX8_findDepartures 44 = .ok (.iadd, 1) := by decide +kernel
theorem dX8_findDepartures_45 : decode cX8_findDepartures 45 = .ok (.sipush 1440, 3) := by decide +kernel
theorem dX8_findDepartures_48 : decode cX8_findDepartures 48 = .ok (.if_icmp .ge 17, 3) := by decide +kernel
theorem dX8_findDepartures_51 : decode cX8_findDepartures 51 = .ok (.aload_n 0, 1) := by decide +kernel
theorem dX8_findDepartures_52 : decode cX8_findDepartures 52 = .ok (.iload_n 1, 1) := by decide +kernel
theorem dX8_findDepartures_53 : decode cX8_findDepartures 53 = .ok (.iload_n 2, 1) := by decide +kernel
theorem dX8_findDepartures_54 : decode cX8_findDepartures 54 = .ok (.iload_n 3, 1) := by decide +kernel
theorem dX8_findDepartures_55 : decode cX8_findDepartures 55 = .ok (.iload 4, 2) := by decide +kernel
theorem dX8_findDepartures_57 : decode cX8_findDepartures 57 = .ok (.iconst 1, 1) := by decide +kernel
theorem dX8_findDepartures_58 : decode cX8_findDepartures 58 = .ok (.iadd, 1) := by decide +kernel
theorem dX8_findDepartures_59 : decode cX8_findDepartures 59 = .ok (.invokevirtual 204, 3) := by decide +kernel
theorem dX8_findDepartures_62 : decode cX8_findDepartures 62 = .ok (.goto 4, 3) := by decide +kernel
theorem dX8_findDepartures_65 : decode cX8_findDepartures 65 = .ok (.iconst (-1), 1) := by decide +kernel
theorem dX8_findDepartures_66 : decode cX8_findDepartures 66 = .ok (.istore 6, 2) := by decide +kernel
theorem dX8_findDepartures_68 : decode cX8_findDepartures 68 = .ok (.iload 5, 2) := by decide +kernel
theorem dX8_findDepartures_70 : decode cX8_findDepartures 70 = .ok (.iconst (-1), 1) := by decide +kernel
theorem dX8_findDepartures_71 : decode cX8_findDepartures 71 = .ok (.if_icmp .eq 40, 3) := by decide +kernel
theorem dX8_findDepartures_74 : decode cX8_findDepartures 74 = .ok (.iload 6, 2) := by decide +kernel
theorem dX8_findDepartures_76 : decode cX8_findDepartures 76 = .ok (.iconst (-1), 1) := by decide +kernel
theorem dX8_findDepartures_77 : decode cX8_findDepartures 77 = .ok (.if_icmp .eq 13, 3) := by decide +kernel
theorem dX8_findDepartures_80 : decode cX8_findDepartures 80 = .ok (.iload 6, 2) := by decide +kernel
theorem dX8_findDepartures_82 : decode cX8_findDepartures 82 = .ok (.iload 5, 2) := by decide +kernel
theorem dX8_findDepartures_84 : decode cX8_findDepartures 84 = .ok (.if_icmp .gt 6, 3) := by decide +kernel
theorem dX8_findDepartures_87 : decode cX8_findDepartures 87 = .ok (.goto 24, 3) := by decide +kernel
theorem dX8_findDepartures_90 : decode cX8_findDepartures 90 = .ok (.aload_n 0, 1) := by decide +kernel
theorem dX8_findDepartures_91 : decode cX8_findDepartures 91 = .ok (.getfield 91, 3) := by decide +kernel
theorem dX8_findDepartures_94 : decode cX8_findDepartures 94 = .ok (.aload_n 0, 1) := by decide +kernel
theorem dX8_findDepartures_95 : decode cX8_findDepartures 95 = .ok (.getfield 228, 3) := by decide +kernel
theorem dX8_findDepartures_98 : decode cX8_findDepartures 98 = .ok (.iload 4, 2) := by decide +kernel
theorem dX8_findDepartures_100 : decode cX8_findDepartures 100 = .ok (.iastore, 1) := by decide +kernel
theorem dX8_findDepartures_101 : decode cX8_findDepartures 101 = .ok (.aload_n 0, 1) := by decide +kernel
theorem dX8_findDepartures_102 : decode cX8_findDepartures 102 = .ok (.aload_n 0, 1) := by decide +kernel
theorem dX8_findDepartures_103 : decode cX8_findDepartures 103 = .ok (.getfield 228, 3) := by decide +kernel
theorem dX8_findDepartures_106 : decode cX8_findDepartures 106 = .ok (.iconst 1, 1) := by decide +kernel
theorem dX8_findDepartures_107 : decode cX8_findDepartures 107 = .ok (.iadd, 1) := by decide +kernel
theorem dX8_findDepartures_108 : decode cX8_findDepartures 108 = .ok (.putfield 228, 3) := by decide +kernel
theorem dX8_findDepartures_111 : decode cX8_findDepartures 111 = .ok (.iinc 4 1, 3) := by decide +kernel
theorem dX8_findDepartures_114 : decode cX8_findDepartures 114 = .ok (.goto (-106), 3) := by decide +kernel
theorem dX8_findDepartures_117 : decode cX8_findDepartures 117 = .ok (.return_, 1) := by decide +kernel
theorem dX8_isGone_0 : decode cX8_isGone 0 = .ok (.iconst 0, 1) := by decide +kernel
theorem dX8_isGone_1 : decode cX8_isGone 1 = .ok (.istore 4, 2) := by decide +kernel
theorem dX8_isGone_3 : decode cX8_isGone 3 = .ok (.iload 4, 2) := by decide +kernel
theorem dX8_isGone_5 : decode cX8_isGone 5 = .ok (.aload_n 0, 1) := by decide +kernel
theorem dX8_isGone_6 : decode cX8_isGone 6 = .ok (.getfield 97, 3) := by decide +kernel
theorem dX8_isGone_9 : decode cX8_isGone 9 = .ok (.if_icmp .ge 67, 3) := by decide +kernel
theorem dX8_isGone_12 : decode cX8_isGone 12 = .ok (.aload_n 0, 1) := by decide +kernel
theorem dX8_isGone_13 : decode cX8_isGone 13 = .ok (.iload 4, 2) := by decide +kernel
theorem dX8_isGone_15 : decode cX8_isGone 15 = .ok (.iload_n 1, 1) := by decide +kernel
theorem dX8_isGone_16 : decode cX8_isGone 16 = .ok (.invokevirtual 113, 3) := by decide +kernel
theorem dX8_isGone_19 : decode cX8_isGone 19 = .ok (.istore 5, 2) := by decide +kernel
theorem dX8_isGone_21 : decode cX8_isGone 21 = .ok (.aload_n 0, 1) := by decide +kernel
theorem dX8_isGone_22 : decode cX8_isGone 22 = .ok (.iload 4, 2) := by decide +kernel
theorem dX8_isGone_24 : decode cX8_isGone 24 = .ok (.iload_n 2, 1) := by decide +kernel
theorem dX8_isGone_25 : decode cX8_isGone 25 = .ok (.invokevirtual 179, 3) := by decide +kernel
theorem dX8_isGone_28 : decode cX8_isGone 28 = .ok (.ifCond .eq 42, 3) := by decide +kernel
theorem dX8_isGone_31 : decode cX8_isGone 31 = .ok (.iload 5, 2) := by decide +kernel
theorem dX8_isGone_33 : decode cX8_isGone 33 = .ok (.iconst (-1), 1) := by decide +kernel
theorem dX8_isGone_34 : decode cX8_isGone 34 = .ok (.if_icmp .eq 36, 3) := by decide +kernel
theorem dX8_isGone_37 : decode cX8_isGone 37 = .ok (.iload 5, 2) := by decide +kernel
theorem dX8_isGone_39 : decode cX8_isGone 39 = .ok (.aload_n 0, 1) := by decide +kernel
theorem dX8_isGone_40 : decode cX8_isGone 40 = .ok (.getfield 17, 3) := by decide +kernel
theorem dX8_isGone_43 : decode cX8_isGone 43 = .ok (.iload 4, 2) := by decide +kernel
theorem dX8_isGone_45 : decode cX8_isGone 45 = .ok (.iaload, 1) := by decide +kernel
theorem dX8_isGone_46 : decode cX8_isGone 46 = .ok (.iconst 1, 1) := by decide +kernel
