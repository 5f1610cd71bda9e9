theorem dX6_folds_168 : decode cX6_folds 168 = .ok (.iload_n 1, 1) := by decide +kernel
theorem dX6_folds_169 : decode cX6_folds 169 = .ok (.iaload, 1) := by decide +kernel
theorem dX6_folds_170 : decode cX6_folds 170 = .ok (.iadd, 1) := by decide +kernel
theorem dX6_folds_171 : decode cX6_folds 171 = .ok (.iaload, 1) := by decide +kernel
theorem dX6_folds_172 : decode cX6_folds 172 = .ok (.iadd, 1) := by decide +kernel
theorem dX6_folds_173 : decode cX6_folds 173 = .ok (.iastore, 1) := by decide +kernel
theorem dX6_folds_174 : decode cX6_folds 174 = .ok (.return_, 1) := by decide +kernel
theorem dX6_has_0 : decode cX6_has 0 = .ok (.iconst 0, 1) := by decide +kernel
theorem dX6_has_1 : decode cX6_has 1 = .ok (.istore_n 3, 1) := by decide +kernel
theorem dX6_has_2 : decode cX6_has 2 = .ok (.iload_n 3, 1) := by decide +kernel
theorem dX6_has_3 : decode cX6_has 3 = .ok (.aload_n 0, 1) := by decide +kernel
theorem dX6_has_4 : decode cX6_has 4 = .ok (.getfield 72, 3) := by decide +kernel
theorem dX6_has_7 : decode cX6_has 7 = .ok (.iload_n 1, 1) := by decide +kernel
theorem dX6_has_8 : decode cX6_has 8 = .ok (.iaload, 1) := by decide +kernel
theorem dX6_has_9 : decode cX6_has 9 = .ok (.if_icmp .ge 72, 3) := by decide +kernel
theorem dX6_has_12 : decode cX6_has 12 = .ok (.iconst 1, 1) := by decide +kernel
theorem dX6_has_13 : decode cX6_has 13 = .ok (.istore 4, 2) := by decide +kernel
theorem dX6_has_15 : decode cX6_has 15 = .ok (.iconst 0, 1) := by decide +kernel
theorem dX6_has_16 : decode cX6_has 16 = .ok (.istore 5, 2) := by decide +kernel
theorem dX6_has_18 : decode cX6_has 18 = .ok (.iload 5, 2) := by decide +kernel
theorem dX6_has_20 : decode cX6_has 20 = .ok (.bipush 6, 2) := by decide +kernel
theorem dX6_has_22 : decode cX6_has 22 = .ok (.if_icmp .ge 46, 3) := by decide +kernel
theorem dX6_has_25 : decode cX6_has 25 = .ok (.iload 4, 2) := by decide +kernel
theorem dX6_has_27 : decode cX6_has 27 = .ok (.ifCond .eq 32, 3) := by decide +kernel
theorem dX6_has_30 : decode cX6_has 30 = .ok (.aload_n 0, 1) := by decide +kernel
theorem dX6_has_31 : decode cX6_has 31 = .ok (.getfield 69, 3) := by decide +kernel
theorem dX6_has_34 : decode cX6_has 34 = .ok (.iload_n 1, 1) := by decide +kernel
theorem dX6_has_35 : decode cX6_has 35 = .ok (.iload_n 3, 1) := by decide +kernel
theorem dX6_has_36 : decode cX6_has 36 = .ok (.invokestatic 196, 3) := by decide +kernel
theorem dX6_has_39 : decode cX6_has 39 = .ok (.iload 5, 2) := by decide +kernel
theorem dX6_has_41 : decode cX6_has 41 = .ok (.iadd, 1) := by decide +kernel
theorem dX6_has_42 : decode cX6_has 42 = .ok (.iaload, 1) := by decide +kernel
theorem dX6_has_43 : decode cX6_has 43 = .ok (.aload_n 0, 1) := by decide +kernel
theorem dX6_has_44 : decode cX6_has 44 = .ok (.getfield 69, 3) := by decide +kernel
theorem dX6_has_47 : decode cX6_has 47 = .ok (.iload_n 2, 1) := by decide +kernel
theorem dX6_has_48 : decode cX6_has 48 = .ok (.iload 5, 2) := by decide +kernel
theorem dX6_has_50 : decode cX6_has 50 = .ok (.iadd, 1) := by decide +kernel
theorem dX6_has_51 : decode cX6_has 51 = .ok (.iaload, 1) := by decide +kernel
theorem dX6_has_52 : decode cX6_has 52 = .ok (.if_icmp .ne 7, 3) := by decide +kernel
theorem dX6_has_55 : decode cX6_has 55 = .ok (.iconst 1, 1) := by decide +kernel
theorem dX6_has_56 : decode cX6_has 56 = .ok (.goto 4, 3) := by decide +kernel
theorem dX6_has_59 : decode cX6_has 59 = .ok (.iconst 0, 1) := by decide +kernel
theorem dX6_has_60 : decode cX6_has 60 = .ok (.istore 4, 2) := by decide +kernel
theorem dX6_has_62 : decode cX6_has 62 = .ok (.iinc 5 1, 3) := by decide +kernel
theorem dX6_has_65 : decode cX6_has 65 = .ok (.goto (-47), 3) := by decide +kernel
theorem dX6_has_68 : decode cX6_has 68 = .ok (.iload 4, 2) := by decide +kernel
theorem dX6_has_70 : decode cX6_has 70 = .ok (.ifCond .eq 5, 3) := by decide +kernel
theorem dX6_has_73 : decode cX6_has 73 = .ok (.iconst 1, 1) := by decide +kernel
theorem dX6_has_74 : decode cX6_has 74 = .ok (.ireturn, 1) := by decide +kernel
theorem dX6_has_75 : decode cX6_has 75 = .ok (.iinc 3 1, 3) := by decide +kernel
theorem dX6_has_78 : decode cX6_has 78 = .ok (.goto (-76), 3) := by decide +kernel
theorem dX6_has_81 : decode cX6_has 81 = .ok (.iconst 0, 1) := by decide +kernel
theorem dX6_has_82 : decode cX6_has 82 = .ok (.ireturn, 1) := by decide +kernel
theorem dX6_run_0 : decode cX6_run 0 = .ok (.aload_n 0, 1) := by decide +kernel
theorem dX6_run_1 : decode cX6_run 1 = .ok (.iload_n 1, 1) := by decide +kernel
theorem dX6_run_2 : decode cX6_run 2 = .ok (.invokevirtual 148, 3) := by decide +kernel
theorem dX6_run_5 : decode cX6_run 5 = .ok (.ifCond .ne 5, 3) := by decide +kernel
theorem dX6_run_8 : decode cX6_run 8 = .ok (.iconst (-1), 1) := by decide +kernel
theorem dX6_run_9 : decode cX6_run 9 = .ok (.ireturn, 1) := by decide +kernel
theorem dX6_run_10 : decode cX6_run 10 = .ok (.iconst 0, 1) := by decide +kernel
theorem dX6_run_11 : decode cX6_run 11 = .ok (.istore_n 2, 1) := by decide +kernel
theorem dX6_run_12 : decode cX6_run 12 = .ok (.iload_n 2, 1) := by decide +kernel
theorem dX6_run_13 : decode cX6_run 13 = .ok (.aload_n 0, 1) := by decide +kernel
theorem dX6_run_14 : decode cX6_run 14 = .ok (.getfield 120, 3) := by decide +kernel
theorem dX6_run_17 : decode cX6_run 17 = .ok (.if_icmp .ge 16, 3) := by decide +kernel
theorem dX6_run_20 : decode cX6_run 20 = .ok (.aload_n 0, 1) := by decide +kernel
theorem dX6_run_21 : decode cX6_run 21 = .ok (.getfield 75, 3) := by decide +kernel
theorem dX6_run_24 : decode cX6_run 24 = .ok (.iload_n 2, 1) := by decide +kernel
theorem dX6_run_25 : decode cX6_run 25 = .ok (.iconst 0, 1) := by decide +kernel
theorem dX6_run_26 : decode cX6_run 26 = .ok (.bastore, 1) := by decide +kernel
theorem dX6_run_27 : decode cX6_run 27 = .ok (.iinc 2 1, 3) := by decide +kernel
theorem dX6_run_30 : decode cX6_run 30 = .ok (.goto (-18), 3) := by decide +kernel
theorem dX6_run_33 : decode cX6_run 33 = .ok (.aload_n 0, 1) := by decide +kernel
theorem dX6_run_34 : decode cX6_run 34 = .ok (.iconst 0, 1) := by decide +kernel
theorem dX6_run_35 : decode cX6_run 35 = .ok (.putfield 190, 3) := by decide +kernel
theorem dX6_run_38 : decode cX6_run 38 = .ok (.aload_n 0, 1) := by decide +kernel
theorem dX6_run_39 : decode cX6_run 39 = .ok (.iconst 0, 1) := by decide +kernel
theorem dX6_run_40 : decode cX6_run 40 = .ok (.putfield 167, 3) := by decide +kernel
theorem dX6_run_43 : decode cX6_run 43 = .ok (.iconst 0, 1) := by decide +kernel
theorem dX6_run_44 : decode cX6_run 44 = .ok (.istore_n 2, 1) := by decide +kernel
theorem dX6_run_45 : decode cX6_run 45 = .ok (.iconst (-1), 1) := by decide +kernel
theorem dX6_run_46 : decode cX6_run 46 = .ok (.istore_n 3, 1) := by decide +kernel
theorem dX6_run_47 : decode cX6_run 47 = .ok (.iconst 1, 1) := by decide +kernel
theorem dX6_run_48 : decode cX6_run 48 = .ok (.istore 4, 2) := by decide +kernel
theorem dX6_run_50 : decode cX6_run 50 = .ok (.aload_n 0, 1) := by decide +kernel
theorem dX6_run_51 : decode cX6_run 51 = .ok (.getfield 78, 3) := by decide +kernel
theorem dX6_run_54 : decode cX6_run 54 = .ok (.iconst 0, 1) := by decide +kernel
theorem dX6_run_55 : decode cX6_run 55 = .ok (.iload_n 1, 1) := by decide +kernel
theorem dX6_run_56 : decode cX6_run 56 = .ok (.iastore, 1) := by decide +kernel
theorem dX6_run_57 : decode cX6_run 57 = .ok (.iload 4, 2) := by decide +kernel
theorem dX6_run_59 : decode cX6_run 59 = .ok (.ifCond .le 151, 3) := by decide +kernel
theorem dX6_run_62 : decode cX6_run 62 = .ok (.aload_n 0, 1) := by decide +kernel
theorem dX6_run_63 : decode cX6_run 63 = .ok (.getfield 190, 3) := by decide +kernel
theorem dX6_run_66 : decode cX6_run 66 = .ok (.ifCond .ne 144, 3) := by decide +kernel
theorem dX6_run_69 : decode cX6_run 69 = .ok (.aload_n 0, 1) := by decide +kernel
theorem dX6_run_70 : decode cX6_run 70 = .ok (.getfield 78, 3) := by decide +kernel
theorem dX6_run_73 : decode cX6_run 73 = .ok (.iload 4, 2) := by decide +kernel
theorem dX6_run_75 : decode cX6_run 75 = .ok (.iconst 1, 1) := by decide +kernel
theorem dX6_run_76 : decode cX6_run 76 = .ok (.isub, 1) := by decide +kernel
theorem dX6_run_77 : decode cX6_run 77 = .ok (.iaload, 1) := by decide +kernel
theorem dX6_run_78 : decode cX6_run 78 = .ok (.istore 5, 2) := by decide +kernel
theorem dX6_run_80 : decode cX6_run 80 = .ok (.aload_n 0, 1) := by decide +kernel
theorem dX6_run_81 : decode cX6_run 81 = .ok (.getfield 38, 3) := by decide +kernel
theorem dX6_run_84 : decode cX6_run 84 = .ok (.iload 5, 2) := by decide +kernel
theorem dX6_run_86 : decode cX6_run 86 = .ok (.iaload, 1) := by decide +kernel
theorem dX6_run_87 : decode cX6_run 87 = .ok (.ifCond .eq 38, 3) := by decide +kernel
theorem dX6_run_90 : decode cX6_run 90 = .ok (.aload_n 0, 1) := by decide +kernel
theorem dX6_run_91 : decode cX6_run 91 = .ok (.getfield 75, 3) := by decide +kernel
theorem dX6_run_94 : decode cX6_run 94 = .ok (.aload_n 0, 1) := by decide +kernel
theorem dX6_run_95 : decode cX6_run 95 = .ok (.getfield 41, 3) := by decide +kernel
theorem dX6_run_98 : decode cX6_run 98 = .ok (.iload 5, 2) := by decide +kernel
theorem dX6_run_100 : decode cX6_run 100 = .ok (.iaload, 1) := by decide +kernel
theorem dX6_run_101 : decode cX6_run 101 = .ok (.baload, 1) := by decide +kernel
theorem dX6_run_102 : decode cX6_run 102 = .ok (.ifCond .ne 23, 3) := by decide +kernel
theorem dX6_run_105 : decode cX6_run 105 = .ok (.aload_n 0, 1) := by decide +kernel
theorem dX6_run_106 : decode cX6_run 106 = .ok (.getfield 78, 3) := by decide +kernel
theorem dX6_run_109 : decode cX6_run 109 = .ok (.iload 4, 2) := by decide +kernel
theorem dX6_run_111 : decode cX6_run 111 = .ok (.aload_n 0, 1) := by decide +kernel
theorem dX6_run_112 : decode cX6_run 112 = .ok (.getfield 41, 3) := by decide +kernel
theorem dX6_run_115 : decode cX6_run 115 = .ok (.iload 5, 2) := by decide +kernel
theorem dX6_run_117 : decode cX6_run 117 = .ok (.iaload, 1) := by decide +kernel
theorem dX6_run_118 : decode cX6_run 118 = .ok (.iastore, 1) := by decide +kernel
theorem dX6_run_119 : decode cX6_run 119 = .ok (.iinc 4 1, 3) := by decide +kernel
theorem dX6_run_122 : decode cX6_run 122 = .ok (.goto 85, 3) := by decide +kernel
theorem dX6_run_125 : decode cX6_run 125 = .ok (.aload_n 0, 1) := by decide +kernel
theorem dX6_run_126 : decode cX6_run 126 = .ok (.getfield 38, 3) := by decide +kernel
theorem dX6_run_129 : decode cX6_run 129 = .ok (.iload 5, 2) := by decide +kernel
theorem dX6_run_131 : decode cX6_run 131 = .ok (.iaload, 1) := by decide +kernel
theorem dX6_run_132 : decode cX6_run 132 = .ok (.invokestatic 129, 3) := by decide +kernel
theorem dX6_run_135 : decode cX6_run 135 = .ok (.ifCond .eq 38, 3) := by decide +kernel
theorem dX6_run_138 : decode cX6_run 138 = .ok (.aload_n 0, 1) := by decide +kernel
theorem dX6_run_139 : decode cX6_run 139 = .ok (.getfield 75, 3) := by decide +kernel
theorem dX6_run_142 : decode cX6_run 142 = .ok (.aload_n 0, 1) := by decide +kernel
theorem dX6_run_143 : decode cX6_run 143 = .ok (.getfield 44, 3) := by decide +kernel
theorem dX6_run_146 : decode cX6_run 146 = .ok (.iload 5, 2) := by decide +kernel
theorem dX6_run_148 : decode cX6_run 148 = .ok (.iaload, 1) := by decide +kernel
theorem dX6_run_149 : decode cX6_run 149 = .ok (.baload, 1) := by decide +kernel
theorem dX6_run_150 : decode cX6_run 150 = .ok (.ifCond .ne 23, 3) := by decide +kernel
theorem dX6_run_153 : decode cX6_run 153 = .ok (.aload_n 0, 1) := by decide +kernel
theorem dX6_run_154 : decode cX6_run 154 = .ok (.getfield 78, 3) := by decide +kernel
theorem dX6_run_157 : decode cX6_run 157 = .ok (.iload 4, 2) := by decide +kernel
theorem dX6_run_159 : decode cX6_run 159 = .ok (.aload_n 0, 1) := by decide +kernel
theorem dX6_run_160 : decode cX6_run 160 = .ok (.getfield 44, 3) := by decide +kernel
theorem dX6_run_163 : decode cX6_run 163 = .ok (.iload 5, 2) := by decide +kernel
theorem dX6_run_165 : decode cX6_run 165 = .ok (.iaload, 1) := by decide +kernel
theorem dX6_run_166 : decode cX6_run 166 = .ok (.iastore, 1) := by decide +kernel
theorem dX6_run_167 : decode cX6_run 167 = .ok (.iinc 4 1, 3) := by decide +kernel
theorem dX6_run_170 : decode cX6_run 170 = .ok (.goto 37, 3) := by decide +kernel
theorem dX6_run_173 : decode cX6_run 173 = .ok (.aload_n 0, 1) := by decide +kernel
theorem dX6_run_174 : decode cX6_run 174 = .ok (.iload 5, 2) := by decide +kernel
theorem dX6_run_176 : decode cX6_run 176 = .ok (.invokevirtual 223, 3) := by decide +kernel
theorem dX6_run_179 : decode cX6_run 179 = .ok (.iinc 2 1, 3) := by decide +kernel
theorem dX6_run_182 : decode cX6_run 182 = .ok (.aload_n 0, 1) := by decide +kernel
theorem dX6_run_183 : decode cX6_run 183 = .ok (.getfield 75, 3) := by decide +kernel
theorem dX6_run_186 : decode cX6_run 186 = .ok (.iload 5, 2) := by decide +kernel
theorem dX6_run_188 : decode cX6_run 188 = .ok (.iconst 1, 1) := by decide +kernel
theorem dX6_run_189 : decode cX6_run 189 = .ok (.bastore, 1) := by decide +kernel
theorem dX6_run_190 : decode cX6_run 190 = .ok (.aload_n 0, 1) := by decide +kernel
theorem dX6_run_191 : decode cX6_run 191 = .ok (.getfield 190, 3) := by decide +kernel
theorem dX6_run_194 : decode cX6_run 194 = .ok (.ifCond .eq 8, 3) := by decide +kernel
theorem dX6_run_197 : decode cX6_run 197 = .ok (.iload 5, 2) := by decide +kernel
theorem dX6_run_199 : decode cX6_run 199 = .ok (.goto 4, 3) := by decide +kernel
theorem dX6_run_202 : decode cX6_run 202 = .ok (.iload_n 3, 1) := by decide +kernel
theorem dX6_run_203 : decode cX6_run 203 = .ok (.istore_n 3, 1) := by decide +kernel
theorem dX6_run_204 : decode cX6_run 204 = .ok (.iinc 4 (-1), 3) := by decide +kernel
theorem dX6_run_207 : decode cX6_run 207 = .ok (.goto (-150), 3) := by decide +kernel
theorem dX6_run_210 : decode cX6_run 210 = .ok (.aload_n 0, 1) := by decide +kernel
theorem dX6_run_211 : decode cX6_run 211 = .ok (.aload_n 0, 1) := by decide +kernel
theorem dX6_run_212 : decode cX6_run 212 = .ok (.getfield 190, 3) := by decide +kernel
theorem dX6_run_215 : decode cX6_run 215 = .ok (.putfield 226, 3) := by decide +kernel
theorem dX6_run_218 : decode cX6_run 218 = .ok (.aload_n 0, 1) := by decide +kernel
theorem dX6_run_219 : decode cX6_run 219 = .ok (.aload_n 0, 1) := by decide +kernel
theorem dX6_run_220 : decode cX6_run 220 = .ok (.getfield 167, 3) := by decide +kernel
theorem dX6_run_223 : decode cX6_run 223 = .ok (.putfield 229, 3) := by decide +kernel
theorem dX6_run_226 : decode cX6_run 226 = .ok (.aload_n 0, 1) := by decide +kernel
theorem dX6_run_227 : decode cX6_run 227 = .ok (.iload_n 2, 1) := by decide +kernel
theorem dX6_run_228 : decode cX6_run 228 = .ok (.putfield 232, 3) := by decide +kernel
theorem dX6_run_231 : decode cX6_run 231 = .ok (.aload_n 0, 1) := by decide +kernel
theorem dX6_run_232 : decode cX6_run 232 = .ok (.iload_n 3, 1) := by decide +kernel
theorem dX6_run_233 : decode cX6_run 233 = .ok (.putfield 84, 3) := by decide +kernel
theorem dX6_run_236 : decode cX6_run 236 = .ok (.aload_n 0, 1) := by decide +kernel
theorem dX6_run_237 : decode cX6_run 237 = .ok (.aload_n 0, 1) := by decide +kernel
theorem dX6_run_238 : decode cX6_run 238 = .ok (.getfield 190, 3) := by decide +kernel
theorem dX6_run_241 : decode cX6_run 241 = .ok (.ifCond .ne 12, 3) := by decide +kernel
theorem dX6_run_244 : decode cX6_run 244 = .ok (.aload_n 0, 1) := by decide +kernel
theorem dX6_run_245 : decode cX6_run 245 = .ok (.getfield 72, 3) := by decide +kernel
theorem dX6_run_248 : decode cX6_run 248 = .ok (.iload_n 1, 1) := by decide +kernel
theorem dX6_run_249 : decode cX6_run 249 = .ok (.iaload, 1) := by decide +kernel
theorem dX6_run_250 : decode cX6_run 250 = .ok (.goto 4, 3) := by decide +kernel
theorem dX6_run_253 : decode cX6_run 253 = .ok (.iconst 0, 1) := by decide +kernel
theorem dX6_run_254 : decode cX6_run 254 = .ok (.putfield 235, 3) := by decide +kernel
theorem dX6_run_257 : decode cX6_run 257 = .ok (.iconst 0, 1) := by decide +kernel
theorem dX6_run_258 : decode cX6_run 258 = .ok (.istore 5, 2) := by decide +kernel
theorem dX6_run_260 : decode cX6_run 260 = .ok (.iload 5, 2) := by decide +kernel
theorem dX6_run_262 : decode cX6_run 262 = .ok (.bipush 6, 2) := by decide +kernel
theorem dX6_run_264 : decode cX6_run 264 = .ok (.aload_n 0, 1) := by decide +kernel
theorem dX6_run_265 : decode cX6_run 265 = .ok (.getfield 235, 3) := by decide +kernel
theorem dX6_run_268 : decode cX6_run 268 = .ok (.imul, 1) := by decide +kernel
theorem dX6_run_269 : decode cX6_run 269 = .ok (.if_icmp .ge 29, 3) := by decide +kernel
theorem dX6_run_272 : decode cX6_run 272 = .ok (.aload_n 0, 1) := by decide +kernel
theorem dX6_run_273 : decode cX6_run 273 = .ok (.getfield 81, 3) := by decide +kernel
theorem dX6_run_276 : decode cX6_run 276 = .ok (.iload 5, 2) := by decide +kernel
theorem dX6_run_278 : decode cX6_run 278 = .ok (.aload_n 0, 1) := by decide +kernel
theorem dX6_run_279 : decode cX6_run 279 = .ok (.getfield 69, 3) := by decide +kernel
theorem dX6_run_282 : decode cX6_run 282 = .ok (.sipush 600, 3) := by decide +kernel
theorem dX6_run_285 : decode cX6_run 285 = .ok (.iload_n 1, 1) := by decide +kernel
theorem dX6_run_286 : decode cX6_run 286 = .ok (.imul, 1) := by decide +kernel
theorem dX6_run_287 : decode cX6_run 287 = .ok (.iload 5, 2) := by decide +kernel
theorem dX6_run_289 : decode cX6_run 289 = .ok (.iadd, 1) := by decide +kernel
theorem dX6_run_290 : decode cX6_run 290 = .ok (.iaload, 1) := by decide +kernel
theorem dX6_run_291 : decode cX6_run 291 = .ok (.iastore, 1) := by decide +kernel
theorem dX6_run_292 : decode cX6_run 292 = .ok (.iinc 5 1, 3) := by decide +kernel
theorem dX6_run_295 : decode cX6_run 295 = .ok (.goto (-35), 3) := by decide +kernel
theorem dX6_run_298 : decode cX6_run 298 = .ok (.aload_n 0, 1) := by decide +kernel
theorem dX6_run_299 : decode cX6_run 299 = .ok (.getfield 190, 3) := by decide +kernel
theorem dX6_run_302 : decode cX6_run 302 = .ok (.ifCond .ne 10, 3) := by decide +kernel
theorem dX6_run_305 : decode cX6_run 305 = .ok (.aload_n 0, 1) := by decide +kernel
theorem dX6_run_306 : decode cX6_run 306 = .ok (.getfield 235, 3) := by decide +kernel
theorem dX6_run_309 : decode cX6_run 309 = .ok (.goto 10, 3) := by decide +kernel
theorem dX6_run_312 : decode cX6_run 312 = .ok (.bipush (-10), 2) := by decide +kernel
theorem dX6_run_314 : decode cX6_run 314 = .ok (.aload_n 0, 1) := by decide +kernel
theorem dX6_run_315 : decode cX6_run 315 = .ok (.getfield 190, 3) := by decide +kernel
theorem dX6_run_318 : decode cX6_run 318 = .ok (.isub, 1) := by decide +kernel
theorem dX6_run_319 : decode cX6_run 319 = .ok (.ireturn, 1) := by decide +kernel
theorem dX6_member_0 : decode cX6_member 0 = .ok (.iload_n 1, 1) := by decide +kernel
theorem dX6_member_1 : decode cX6_member 1 = .ok (.i2l, 1) := by decide +kernel
theorem dX6_member_2 : decode cX6_member 2 = .ok (.lconst 0, 1) := by decide +kernel
theorem dX6_member_3 : decode cX6_member 3 = .ok (.aload_n 0, 1) := by decide +kernel
theorem dX6_member_4 : decode cX6_member 4 = .ok (.getfield 235, 3) := by decide +kernel
theorem dX6_member_7 : decode cX6_member 7 = .ok (.iconst 1, 1) := by decide +kernel
theorem dX6_member_8 : decode cX6_member 8 = .ok (.isub, 1) := by decide +kernel
theorem dX6_member_9 : decode cX6_member 9 = .ok (.i2l, 1) := by decide +kernel
theorem dX6_member_10 : decode cX6_member 10 = .ok (.invokestatic 90, 3) := by decide +kernel
theorem dX6_member_13 : decode cX6_member 13 = .ok (.ifCond .eq 29, 3) := by decide +kernel
theorem dX6_member_16 : decode cX6_member 16 = .ok (.iload_n 2, 1) := by decide +kernel
theorem dX6_member_17 : decode cX6_member 17 = .ok (.i2l, 1) := by decide +kernel
theorem dX6_member_18 : decode cX6_member 18 = .ok (.lconst 0, 1) := by decide +kernel
theorem dX6_member_19 : decode cX6_member 19 = .ok (.ldc2_w 112, 3) := by decide +kernel
theorem dX6_member_22 : decode cX6_member 22 = .ok (.invokestatic 90, 3) := by decide +kernel
theorem dX6_member_25 : decode cX6_member 25 = .ok (.ifCond .eq 17, 3) := by decide +kernel
theorem dX6_member_28 : decode cX6_member 28 = .ok (.aload_n 0, 1) := by decide +kernel
theorem dX6_member_29 : decode cX6_member 29 = .ok (.getfield 81, 3) := by decide +kernel
theorem dX6_member_32 : decode cX6_member 32 = .ok (.bipush 6, 2) := by decide +kernel
theorem dX6_member_34 : decode cX6_member 34 = .ok (.iload_n 1, 1) := by decide +kernel
theorem dX6_member_35 : decode cX6_member 35 = .ok (.imul, 1) := by decide +kernel
theorem dX6_member_36 : decode cX6_member 36 = .ok (.iload_n 2, 1) := by decide +kernel
theorem dX6_member_37 : decode cX6_member 37 = .ok (.iadd, 1) := by decide +kernel
theorem dX6_member_38 : decode cX6_member 38 = .ok (.iaload, 1) := by decide +kernel
theorem dX6_member_39 : decode cX6_member 39 = .ok (.goto 4, 3) := by decide +kernel
theorem dX6_member_42 : decode cX6_member 42 = .ok (.iconst 0, 1) := by decide +kernel
theorem dX6_member_43 : decode cX6_member 43 = .ok (.ireturn, 1) := by decide +kernel
theorem dX6_worked_0 : decode cX6_worked 0 = .ok (.iload_n 1, 1) := by decide +kernel
theorem dX6_worked_1 : decode cX6_worked 1 = .ok (.tableswitch 51 0 3 #[31, 36, 41, 46], 31) := by decide +kernel
theorem dX6_worked_32 : decode cX6_worked 32 = .ok (.aload_n 0, 1) := by decide +kernel
theorem dX6_worked_33 : decode cX6_worked 33 = .ok (.getfield 226, 3) := by decide +kernel
theorem dX6_worked_36 : decode cX6_worked 36 = .ok (.ireturn, 1) := by decide +kernel
theorem dX6_worked_37 : decode cX6_worked 37 = .ok (.aload_n 0, 1) := by decide +kernel
theorem dX6_worked_38 : decode cX6_worked 38 = .ok (.getfield 229, 3) := by decide +kernel
theorem dX6_worked_41 : decode cX6_worked 41 = .ok (.ireturn, 1) := by decide +kernel
theorem dX6_worked_42 : decode cX6_worked 42 = .ok (.aload_n 0, 1) := by decide +kernel
theorem dX6_worked_43 : decode cX6_worked 43 = .ok (.getfield 232, 3) := by decide +kernel
theorem dX6_worked_46 : decode cX6_worked 46 = .ok (.ireturn, 1) := by decide +kernel
theorem dX6_worked_47 : decode cX6_worked 47 = .ok (.aload_n 0, 1) := by decide +kernel
theorem dX6_worked_48 : decode cX6_worked 48 = .ok (.getfield 84, 3) := by decide +kernel
theorem dX6_worked_51 : decode cX6_worked 51 = .ok (.ireturn, 1) := by decide +kernel
theorem dX6_worked_52 : decode cX6_worked 52 = .ok (.iconst (-1), 1) := by decide +kernel
theorem dX6_worked_53 : decode cX6_worked 53 = .ok (.ireturn, 1) := by decide +kernel
theorem dX6_isOf_0 : decode cX6_isOf 0 = .ok (.iload_n 0, 1) := by decide +kernel
theorem dX6_isOf_1 : decode cX6_isOf 1 = .ok (.iload_n 1, 1) := by decide +kernel
theorem dX6_isOf_2 : decode cX6_isOf 2 = .ok (.iconst (-1), 1) := by decide +kernel
theorem dX6_isOf_3 : decode cX6_isOf 3 = .ok (.ixor, 1) := by decide +kernel
theorem dX6_isOf_4 : decode cX6_isOf 4 = .ok (.iand, 1) := by decide +kernel
theorem dX6_isOf_5 : decode cX6_isOf 5 = .ok (.ifCond .ne 7, 3) := by decide +kernel
theorem dX6_isOf_8 : decode cX6_isOf 8 = .ok (.iconst 1, 1) := by decide +kernel
theorem dX6_isOf_9 : decode cX6_isOf 9 = .ok (.goto 4, 3) := by decide +kernel
theorem dX6_isOf_12 : decode cX6_isOf 12 = .ok (.iconst 0, 1) := by decide +kernel
theorem dX6_isOf_13 : decode cX6_isOf 13 = .ok (.ireturn, 1) := by decide +kernel
theorem dX6_isFold_0 : decode cX6_isFold 0 = .ok (.aload_n 0, 1) := by decide +kernel
theorem dX6_isFold_1 : decode cX6_isFold 1 = .ok (.getfield 38, 3) := by decide +kernel
theorem dX6_isFold_4 : decode cX6_isFold 4 = .ok (.iload_n 1, 1) := by decide +kernel
theorem dX6_isFold_5 : decode cX6_isFold 5 = .ok (.iaload, 1) := by decide +kernel
theorem dX6_isFold_6 : decode cX6_isFold 6 = .ok (.bipush 6, 2) := by decide +kernel
theorem dX6_isFold_8 : decode cX6_isFold 8 = .ok (.if_icmp .ne 27, 3) := by decide +kernel
theorem dX6_isFold_11 : decode cX6_isFold 11 = .ok (.aload_n 0, 1) := by decide +kernel
theorem dX6_isFold_12 : decode cX6_isFold 12 = .ok (.getfield 47, 3) := by decide +kernel
theorem dX6_isFold_15 : decode cX6_isFold 15 = .ok (.iload_n 1, 1) := by decide +kernel
theorem dX6_isFold_16 : decode cX6_isFold 16 = .ok (.iaload, 1) := by decide +kernel
theorem dX6_isFold_17 : decode cX6_isFold 17 = .ok (.iload_n 2, 1) := by decide +kernel
theorem dX6_isFold_18 : decode cX6_isFold 18 = .ok (.if_icmp .ne 17, 3) := by decide +kernel
theorem dX6_isFold_21 : decode cX6_isFold 21 = .ok (.aload_n 0, 1) := by decide +kernel
theorem dX6_isFold_22 : decode cX6_isFold 22 = .ok (.getfield 50, 3) := by decide +kernel
theorem dX6_isFold_25 : decode cX6_isFold 25 = .ok (.iload_n 1, 1) := by decide +kernel
theorem dX6_isFold_26 : decode cX6_isFold 26 = .ok (.iaload, 1) := by decide +kernel
theorem dX6_isFold_27 : decode cX6_isFold 27 = .ok (.iload_n 3, 1) := by decide +kernel
theorem dX6_isFold_28 : decode cX6_isFold 28 = .ok (.if_icmp .ne 7, 3) := by decide +kernel
theorem dX6_isFold_31 : decode cX6_isFold 31 = .ok (.iconst 1, 1) := by decide +kernel
theorem dX6_isFold_32 : decode cX6_isFold 32 = .ok (.goto 4, 3) := by decide +kernel
theorem dX6_isFold_35 : decode cX6_isFold 35 = .ok (.iconst 0, 1) := by decide +kernel
theorem dX6_isFold_36 : decode cX6_isFold 36 = .ok (.ireturn, 1) := by decide +kernel
theorem dX6_stands_0 : decode cX6_stands 0 = .ok (.aload_n 0, 1) := by decide +kernel
theorem dX6_stands_1 : decode cX6_stands 1 = .ok (.getfield 38, 3) := by decide +kernel
theorem dX6_stands_4 : decode cX6_stands 4 = .ok (.iload_n 1, 1) := by decide +kernel
theorem dX6_stands_5 : decode cX6_stands 5 = .ok (.iaload, 1) := by decide +kernel
theorem dX6_stands_6 : decode cX6_stands 6 = .ok (.ifCond .ne 5, 3) := by decide +kernel
theorem dX6_stands_9 : decode cX6_stands 9 = .ok (.iconst 0, 1) := by decide +kernel
theorem dX6_stands_10 : decode cX6_stands 10 = .ok (.ireturn, 1) := by decide +kernel
theorem dX6_stands_11 : decode cX6_stands 11 = .ok (.aload_n 0, 1) := by decide +kernel
theorem dX6_stands_12 : decode cX6_stands 12 = .ok (.getfield 41, 3) := by decide +kernel
theorem dX6_stands_15 : decode cX6_stands 15 = .ok (.iload_n 1, 1) := by decide +kernel
theorem dX6_stands_16 : decode cX6_stands 16 = .ok (.iaload, 1) := by decide +kernel
theorem dX6_stands_17 : decode cX6_stands 17 = .ok (.istore_n 3, 1) := by decide +kernel
theorem dX6_stands_18 : decode cX6_stands 18 = .ok (.aload_n 0, 1) := by decide +kernel
theorem dX6_stands_19 : decode cX6_stands 19 = .ok (.getfield 38, 3) := by decide +kernel
theorem dX6_stands_22 : decode cX6_stands 22 = .ok (.iload_n 3, 1) := by decide +kernel
theorem dX6_stands_23 : decode cX6_stands 23 = .ok (.iaload, 1) := by decide +kernel
theorem dX6_stands_24 : decode cX6_stands 24 = .ok (.istore 4, 2) := by decide +kernel
theorem dX6_stands_26 : decode cX6_stands 26 = .ok (.aload_n 0, 1) := by decide +kernel
theorem dX6_stands_27 : decode cX6_stands 27 = .ok (.getfield 50, 3) := by decide +kernel
theorem dX6_stands_30 : decode cX6_stands 30 = .ok (.iload_n 1, 1) := by decide +kernel
theorem dX6_stands_31 : decode cX6_stands 31 = .ok (.iaload, 1) := by decide +kernel
theorem dX6_stands_32 : decode cX6_stands 32 = .ok (.istore 5, 2) := by decide +kernel
theorem dX6_stands_34 : decode cX6_stands 34 = .ok (.aload_n 0, 1) := by decide +kernel
theorem dX6_stands_35 : decode cX6_stands 35 = .ok (.getfield 38, 3) := by decide +kernel
theorem dX6_stands_38 : decode cX6_stands 38 = .ok (.iload_n 1, 1) := by decide +kernel
theorem dX6_stands_39 : decode cX6_stands 39 = .ok (.iaload, 1) := by decide +kernel
theorem dX6_stands_40 : decode cX6_stands 40 = .ok (.iconst 1, 1) := by decide +kernel
theorem dX6_stands_41 : decode cX6_stands 41 = .ok (.if_icmp .eq 13, 3) := by decide +kernel
theorem dX6_stands_44 : decode cX6_stands 44 = .ok (.aload_n 0, 1) := by decide +kernel
theorem dX6_stands_45 : decode cX6_stands 45 = .ok (.getfield 38, 3) := by decide +kernel
theorem dX6_stands_48 : decode cX6_stands 48 = .ok (.iload_n 1, 1) := by decide +kernel
theorem dX6_stands_49 : decode cX6_stands 49 = .ok (.iaload, 1) := by decide +kernel
theorem dX6_stands_50 : decode cX6_stands 50 = .ok (.iconst 2, 1) := by decide +kernel
theorem dX6_stands_51 : decode cX6_stands 51 = .ok (.if_icmp .ne 8, 3) := by decide +kernel
theorem dX6_stands_54 : decode cX6_stands 54 = .ok (.iload 5, 2) := by decide +kernel
theorem dX6_stands_56 : decode cX6_stands 56 = .ok (.goto 4, 3) := by decide +kernel
theorem dX6_stands_59 : decode cX6_stands 59 = .ok (.iconst (-1), 1) := by decide +kernel
theorem dX6_stands_60 : decode cX6_stands 60 = .ok (.istore 6, 2) := by decide +kernel
theorem dX6_stands_62 : decode cX6_stands 62 = .ok (.iload 4, 2) := by decide +kernel
theorem dX6_stands_64 : decode cX6_stands 64 = .ok (.iconst 1, 1) := by decide +kernel
theorem dX6_stands_65 : decode cX6_stands 65 = .ok (.if_icmp .eq 9, 3) := by decide +kernel
theorem dX6_stands_68 : decode cX6_stands 68 = .ok (.iload 4, 2) := by decide +kernel
theorem dX6_stands_70 : decode cX6_stands 70 = .ok (.iconst 2, 1) := by decide +kernel
theorem dX6_stands_71 : decode cX6_stands 71 = .ok (.if_icmp .ne 12, 3) := by decide +kernel
theorem dX6_stands_74 : decode cX6_stands 74 = .ok (.aload_n 0, 1) := by decide +kernel
theorem dX6_stands_75 : decode cX6_stands 75 = .ok (.getfield 50, 3) := by decide +kernel
theorem dX6_stands_78 : decode cX6_stands 78 = .ok (.iload_n 3, 1) := by decide +kernel
theorem dX6_stands_79 : decode cX6_stands 79 = .ok (.iaload, 1) := by decide +kernel
theorem dX6_stands_80 : decode cX6_stands 80 = .ok (.goto 4, 3) := by decide +kernel
theorem dX6_stands_83 : decode cX6_stands 83 = .ok (.iconst (-1), 1) := by decide +kernel
theorem dX6_stands_84 : decode cX6_stands 84 = .ok (.istore 7, 2) := by decide +kernel
theorem dX6_stands_86 : decode cX6_stands 86 = .ok (.aload_n 0, 1) := by decide +kernel
theorem dX6_stands_87 : decode cX6_stands 87 = .ok (.getfield 38, 3) := by decide +kernel
theorem dX6_stands_90 : decode cX6_stands 90 = .ok (.iload_n 1, 1) := by decide +kernel
theorem dX6_stands_91 : decode cX6_stands 91 = .ok (.iaload, 1) := by decide +kernel
theorem dX6_stands_92 : decode cX6_stands 92 = .ok (.iconst 1, 1) := by decide +kernel
theorem dX6_stands_93 : decode cX6_stands 93 = .ok (.if_icmp .ne 7, 3) := by decide +kernel
theorem dX6_stands_96 : decode cX6_stands 96 = .ok (.iconst 1, 1) := by decide +kernel
theorem dX6_stands_97 : decode cX6_stands 97 = .ok (.goto 4, 3) := by decide +kernel
theorem dX6_stands_100 : decode cX6_stands 100 = .ok (.iconst 0, 1) := by decide +kernel
theorem dX6_stands_101 : decode cX6_stands 101 = .ok (.istore 8, 2) := by decide +kernel
theorem dX6_stands_103 : decode cX6_stands 103 = .ok (.iload_n 2, 1) := by decide +kernel
theorem dX6_stands_104 : decode cX6_stands 104 = .ok (.tableswitch 773 0 16 #[84, 130, 166, 210, 256, 297, 346, 364, 401, 467, 489, 535, 557, 622, 670, 694, 718], 84) := by decide +kernel
theorem dX6_stands_188 : decode cX6_stands 188 = .ok (.iload 8, 2) := by decide +kernel
theorem dX6_stands_190 : decode cX6_stands 190 = .ok (.ifCond .eq 42, 3) := by decide +kernel
theorem dX6_stands_193 : decode cX6_stands 193 = .ok (.iload 4, 2) := by decide +kernel
theorem dX6_stands_195 : decode cX6_stands 195 = .ok (.iconst 2, 1) := by decide +kernel
theorem dX6_stands_196 : decode cX6_stands 196 = .ok (.if_icmp .ne 36, 3) := by decide +kernel
theorem dX6_stands_199 : decode cX6_stands 199 = .ok (.aload_n 0, 1) := by decide +kernel
theorem dX6_stands_200 : decode cX6_stands 200 = .ok (.getfield 28, 3) := by decide +kernel
theorem dX6_stands_203 : decode cX6_stands 203 = .ok (.iload 6, 2) := by decide +kernel
theorem dX6_stands_205 : decode cX6_stands 205 = .ok (.iaload, 1) := by decide +kernel
theorem dX6_stands_206 : decode cX6_stands 206 = .ok (.aload_n 0, 1) := by decide +kernel
theorem dX6_stands_207 : decode cX6_stands 207 = .ok (.getfield 47, 3) := by decide +kernel
theorem dX6_stands_210 : decode cX6_stands 210 = .ok (.iload_n 3, 1) := by decide +kernel
theorem dX6_stands_211 : decode cX6_stands 211 = .ok (.iaload, 1) := by decide +kernel
theorem dX6_stands_212 : decode cX6_stands 212 = .ok (.ishr, 1) := by decide +kernel
theorem dX6_stands_213 : decode cX6_stands 213 = .ok (.iconst 1, 1) := by decide +kernel
theorem dX6_stands_214 : decode cX6_stands 214 = .ok (.iand, 1) := by decide +kernel
theorem dX6_stands_215 : decode cX6_stands 215 = .ok (.ifCond .ne 17, 3) := by decide +kernel
theorem dX6_stands_218 : decode cX6_stands 218 = .ok (.aload_n 0, 1) := by decide +kernel
theorem dX6_stands_219 : decode cX6_stands 219 = .ok (.getfield 31, 3) := by decide +kernel
theorem dX6_stands_222 : decode cX6_stands 222 = .ok (.iload 7, 2) := by decide +kernel
theorem dX6_stands_224 : decode cX6_stands 224 = .ok (.baload, 1) := by decide +kernel
theorem dX6_stands_225 : decode cX6_stands 225 = .ok (.ifCond .ne 7, 3) := by decide +kernel
theorem dX6_stands_228 : decode cX6_stands 228 = .ok (.iconst 1, 1) := by decide +kernel
theorem dX6_stands_229 : decode cX6_stands 229 = .ok (.goto 4, 3) := by decide +kernel
theorem dX6_stands_232 : decode cX6_stands 232 = .ok (.iconst 0, 1) := by decide +kernel
theorem dX6_stands_233 : decode cX6_stands 233 = .ok (.ireturn, 1) := by decide +kernel
theorem dX6_stands_234 : decode cX6_stands 234 = .ok (.iload 8, 2) := by decide +kernel
theorem dX6_stands_236 : decode cX6_stands 236 = .ok (.ifCond .eq 32, 3) := by decide +kernel
theorem dX6_stands_239 : decode cX6_stands 239 = .ok (.iload 4, 2) := by decide +kernel
theorem dX6_stands_241 : decode cX6_stands 241 = .ok (.iconst 3, 1) := by decide +kernel
theorem dX6_stands_242 : decode cX6_stands 242 = .ok (.if_icmp .ne 26, 3) := by decide +kernel
theorem dX6_stands_245 : decode cX6_stands 245 = .ok (.aload_n 0, 1) := by decide +kernel
theorem dX6_stands_246 : decode cX6_stands 246 = .ok (.getfield 28, 3) := by decide +kernel
theorem dX6_stands_249 : decode cX6_stands 249 = .ok (.iload 6, 2) := by decide +kernel
theorem dX6_stands_251 : decode cX6_stands 251 = .ok (.iaload, 1) := by decide +kernel
theorem dX6_stands_252 : decode cX6_stands 252 = .ok (.aload_n 0, 1) := by decide +kernel
theorem dX6_stands_253 : decode cX6_stands 253 = .ok (.getfield 50, 3) := by decide +kernel
theorem dX6_stands_256 : decode cX6_stands 256 = .ok (.iload_n 3, 1) := by decide +kernel
theorem dX6_stands_257 : decode cX6_stands 257 = .ok (.iaload, 1) := by decide +kernel
theorem dX6_stands_258 : decode cX6_stands 258 = .ok (.invokestatic 238, 3) := by decide +kernel
theorem dX6_stands_261 : decode cX6_stands 261 = .ok (.ifCond .eq 7, 3) := by decide +kernel
theorem dX6_stands_264 : decode cX6_stands 264 = .ok (.iconst 1, 1) := by decide +kernel
theorem dX6_stands_265 : decode cX6_stands 265 = .ok (.goto 4, 3) := by decide +kernel
theorem dX6_stands_268 : decode cX6_stands 268 = .ok (.iconst 0, 1) := by decide +kernel
theorem dX6_stands_269 : decode cX6_stands 269 = .ok (.ireturn, 1) := by decide +kernel
theorem dX6_stands_270 : decode cX6_stands 270 = .ok (.iload 8, 2) := by decide +kernel
theorem dX6_stands_272 : decode cX6_stands 272 = .ok (.ifCond .eq 40, 3) := by decide +kernel
theorem dX6_stands_275 : decode cX6_stands 275 = .ok (.iload 4, 2) := by decide +kernel
theorem dX6_stands_277 : decode cX6_stands 277 = .ok (.iconst 4, 1) := by decide +kernel
theorem dX6_stands_278 : decode cX6_stands 278 = .ok (.if_icmp .ne 34, 3) := by decide +kernel
theorem dX6_stands_281 : decode cX6_stands 281 = .ok (.aload_n 0, 1) := by decide +kernel
theorem dX6_stands_282 : decode cX6_stands 282 = .ok (.getfield 28, 3) := by decide +kernel
theorem dX6_stands_285 : decode cX6_stands 285 = .ok (.iload 6, 2) := by decide +kernel
theorem dX6_stands_287 : decode cX6_stands 287 = .ok (.iaload, 1) := by decide +kernel
theorem dX6_stands_288 : decode cX6_stands 288 = .ok (.aload_n 0, 1) := by decide +kernel
theorem dX6_stands_289 : decode cX6_stands 289 = .ok (.getfield 50, 3) := by decide +kernel
theorem dX6_stands_292 : decode cX6_stands 292 = .ok (.iload_n 3, 1) := by decide +kernel
theorem dX6_stands_293 : decode cX6_stands 293 = .ok (.iaload, 1) := by decide +kernel
theorem dX6_stands_294 : decode cX6_stands 294 = .ok (.iand, 1) := by decide +kernel
theorem dX6_stands_295 : decode cX6_stands 295 = .ok (.ifCond .ne 17, 3) := by decide +kernel
theorem dX6_stands_298 : decode cX6_stands 298 = .ok (.aload_n 0, 1) := by decide +kernel
theorem dX6_stands_299 : decode cX6_stands 299 = .ok (.getfield 31, 3) := by decide +kernel
theorem dX6_stands_302 : decode cX6_stands 302 = .ok (.iload 6, 2) := by decide +kernel
theorem dX6_stands_304 : decode cX6_stands 304 = .ok (.baload, 1) := by decide +kernel
theorem dX6_stands_305 : decode cX6_stands 305 = .ok (.ifCond .ne 7, 3) := by decide +kernel
theorem dX6_stands_308 : decode cX6_stands 308 = .ok (.iconst 1, 1) := by decide +kernel
theorem dX6_stands_309 : decode cX6_stands 309 = .ok (.goto 4, 3) := by decide +kernel
theorem dX6_stands_312 : decode cX6_stands 312 = .ok (.iconst 0, 1) := by decide +kernel
theorem dX6_stands_313 : decode cX6_stands 313 = .ok (.ireturn, 1) := by decide +kernel
theorem dX6_stands_314 : decode cX6_stands 314 = .ok (.iload 8, 2) := by decide +kernel
theorem dX6_stands_316 : decode cX6_stands 316 = .ok (.ifCond .eq 42, 3) := by decide +kernel
theorem dX6_stands_319 : decode cX6_stands 319 = .ok (.iload 4, 2) := by decide +kernel
theorem dX6_stands_321 : decode cX6_stands 321 = .ok (.iconst 4, 1) := by decide +kernel
theorem dX6_stands_322 : decode cX6_stands 322 = .ok (.if_icmp .ne 36, 3) := by decide +kernel
theorem dX6_stands_325 : decode cX6_stands 325 = .ok (.aload_n 0, 1) := by decide +kernel
theorem dX6_stands_326 : decode cX6_stands 326 = .ok (.getfield 28, 3) := by decide +kernel
theorem dX6_stands_329 : decode cX6_stands 329 = .ok (.iload 6, 2) := by decide +kernel
theorem dX6_stands_331 : decode cX6_stands 331 = .ok (.iaload, 1) := by decide +kernel
theorem dX6_stands_332 : decode cX6_stands 332 = .ok (.aload_n 0, 1) := by decide +kernel
theorem dX6_stands_333 : decode cX6_stands 333 = .ok (.getfield 50, 3) := by decide +kernel
theorem dX6_stands_336 : decode cX6_stands 336 = .ok (.iload_n 3, 1) := by decide +kernel
theorem dX6_stands_337 : decode cX6_stands 337 = .ok (.iaload, 1) := by decide +kernel
theorem dX6_stands_338 : decode cX6_stands 338 = .ok (.invokestatic 238, 3) := by decide +kernel
theorem dX6_stands_341 : decode cX6_stands 341 = .ok (.ifCond .eq 17, 3) := by decide +kernel
theorem dX6_stands_344 : decode cX6_stands 344 = .ok (.aload_n 0, 1) := by decide +kernel
theorem dX6_stands_345 : decode cX6_stands 345 = .ok (.getfield 31, 3) := by decide +kernel
theorem dX6_stands_348 : decode cX6_stands 348 = .ok (.iload 6, 2) := by decide +kernel
theorem dX6_stands_350 : decode cX6_stands 350 = .ok (.baload, 1) := by decide +kernel
theorem dX6_stands_351 : decode cX6_stands 351 = .ok (.ifCond .ne 7, 3) := by decide +kernel
theorem dX6_stands_354 : decode cX6_stands 354 = .ok (.iconst 1, 1) := by decide +kernel
theorem dX6_stands_355 : decode cX6_stands 355 = .ok (.goto 4, 3) := by decide +kernel
theorem dX6_stands_358 : decode cX6_stands 358 = .ok (.iconst 0, 1) := by decide +kernel
theorem dX6_stands_359 : decode cX6_stands 359 = .ok (.ireturn, 1) := by decide +kernel
theorem dX6_stands_360 : decode cX6_stands 360 = .ok (.iload 8, 2) := by decide +kernel
theorem dX6_stands_362 : decode cX6_stands 362 = .ok (.ifCond .eq 37, 3) := by decide +kernel
theorem dX6_stands_365 : decode cX6_stands 365 = .ok (.iload 4, 2) := by decide +kernel
theorem dX6_stands_367 : decode cX6_stands 367 = .ok (.iconst 5, 1) := by decide +kernel
theorem dX6_stands_368 : decode cX6_stands 368 = .ok (.if_icmp .ne 31, 3) := by decide +kernel
theorem dX6_stands_371 : decode cX6_stands 371 = .ok (.aload_n 0, 1) := by decide +kernel
theorem dX6_stands_372 : decode cX6_stands 372 = .ok (.getfield 31, 3) := by decide +kernel
theorem dX6_stands_375 : decode cX6_stands 375 = .ok (.iload 6, 2) := by decide +kernel
theorem dX6_stands_377 : decode cX6_stands 377 = .ok (.baload, 1) := by decide +kernel
theorem dX6_stands_378 : decode cX6_stands 378 = .ok (.ifCond .eq 17, 3) := by decide +kernel
theorem dX6_stands_381 : decode cX6_stands 381 = .ok (.aload_n 0, 1) := by decide +kernel
theorem dX6_stands_382 : decode cX6_stands 382 = .ok (.getfield 56, 3) := by decide +kernel
theorem dX6_stands_385 : decode cX6_stands 385 = .ok (.aload_n 0, 1) := by decide +kernel
theorem dX6_stands_386 : decode cX6_stands 386 = .ok (.getfield 44, 3) := by decide +kernel
theorem dX6_stands_389 : decode cX6_stands 389 = .ok (.iload_n 3, 1) := by decide +kernel
theorem dX6_stands_390 : decode cX6_stands 390 = .ok (.iaload, 1) := by decide +kernel
theorem dX6_stands_391 : decode cX6_stands 391 = .ok (.baload, 1) := by decide +kernel
theorem dX6_stands_392 : decode cX6_stands 392 = .ok (.ifCond .ne 7, 3) := by decide +kernel
theorem dX6_stands_395 : decode cX6_stands 395 = .ok (.iconst 1, 1) := by decide +kernel
theorem dX6_stands_396 : decode cX6_stands 396 = .ok (.goto 4, 3) := by decide +kernel
theorem dX6_stands_399 : decode cX6_stands 399 = .ok (.iconst 0, 1) := by decide +kernel
theorem dX6_stands_400 : decode cX6_stands 400 = .ok (.ireturn, 1) := by decide +kernel
theorem dX6_stands_401 : decode cX6_stands 401 = .ok (.iload 8, 2) := by decide +kernel
theorem dX6_stands_403 : decode cX6_stands 403 = .ok (.ifCond .eq 45, 3) := by decide +kernel
theorem dX6_stands_406 : decode cX6_stands 406 = .ok (.iload 4, 2) := by decide +kernel
theorem dX6_stands_408 : decode cX6_stands 408 = .ok (.bipush 6, 2) := by decide +kernel
theorem dX6_stands_410 : decode cX6_stands 410 = .ok (.if_icmp .ne 38, 3) := by decide +kernel
theorem dX6_stands_413 : decode cX6_stands 413 = .ok (.aload_n 0, 1) := by decide +kernel
theorem dX6_stands_414 : decode cX6_stands 414 = .ok (.getfield 28, 3) := by decide +kernel
theorem dX6_stands_417 : decode cX6_stands 417 = .ok (.iload 6, 2) := by decide +kernel
theorem dX6_stands_419 : decode cX6_stands 419 = .ok (.iaload, 1) := by decide +kernel
theorem dX6_stands_420 : decode cX6_stands 420 = .ok (.iconst 1, 1) := by decide +kernel
theorem dX6_stands_421 : decode cX6_stands 421 = .ok (.aload_n 0, 1) := by decide +kernel
theorem dX6_stands_422 : decode cX6_stands 422 = .ok (.getfield 47, 3) := by decide +kernel
theorem dX6_stands_425 : decode cX6_stands 425 = .ok (.iload_n 3, 1) := by decide +kernel
theorem dX6_stands_426 : decode cX6_stands 426 = .ok (.iaload, 1) := by decide +kernel
theorem dX6_stands_427 : decode cX6_stands 427 = .ok (.ishl, 1) := by decide +kernel
theorem dX6_stands_428 : decode cX6_stands 428 = .ok (.invokestatic 238, 3) := by decide +kernel
theorem dX6_stands_431 : decode cX6_stands 431 = .ok (.ifCond .eq 17, 3) := by decide +kernel
theorem dX6_stands_434 : decode cX6_stands 434 = .ok (.aload_n 0, 1) := by decide +kernel
theorem dX6_stands_435 : decode cX6_stands 435 = .ok (.getfield 31, 3) := by decide +kernel
theorem dX6_stands_438 : decode cX6_stands 438 = .ok (.iload 6, 2) := by decide +kernel
theorem dX6_stands_440 : decode cX6_stands 440 = .ok (.baload, 1) := by decide +kernel
theorem dX6_stands_441 : decode cX6_stands 441 = .ok (.ifCond .ne 7, 3) := by decide +kernel
theorem dX6_stands_444 : decode cX6_stands 444 = .ok (.iconst 1, 1) := by decide +kernel
theorem dX6_stands_445 : decode cX6_stands 445 = .ok (.goto 4, 3) := by decide +kernel
theorem dX6_stands_448 : decode cX6_stands 448 = .ok (.iconst 0, 1) := by decide +kernel
theorem dX6_stands_449 : decode cX6_stands 449 = .ok (.ireturn, 1) := by decide +kernel
theorem dX6_stands_450 : decode cX6_stands 450 = .ok (.iload 8, 2) := by decide +kernel
theorem dX6_stands_452 : decode cX6_stands 452 = .ok (.ifCond .eq 14, 3) := by decide +kernel
theorem dX6_stands_455 : decode cX6_stands 455 = .ok (.iload 4, 2) := by decide +kernel
theorem dX6_stands_457 : decode cX6_stands 457 = .ok (.bipush 7, 2) := by decide +kernel
theorem dX6_stands_459 : decode cX6_stands 459 = .ok (.if_icmp .ne 7, 3) := by decide +kernel
theorem dX6_stands_462 : decode cX6_stands 462 = .ok (.iconst 1, 1) := by decide +kernel
theorem dX6_stands_463 : decode cX6_stands 463 = .ok (.goto 4, 3) := by decide +kernel
theorem dX6_stands_466 : decode cX6_stands 466 = .ok (.iconst 0, 1) := by decide +kernel
theorem dX6_stands_467 : decode cX6_stands 467 = .ok (.ireturn, 1) := by decide +kernel
theorem dX6_stands_468 : decode cX6_stands 468 = .ok (.iload 8, 2) := by decide +kernel
theorem dX6_stands_470 : decode cX6_stands 470 = .ok (.ifCond .eq 33, 3) := by decide +kernel
theorem dX6_stands_473 : decode cX6_stands 473 = .ok (.iload 4, 2) := by decide +kernel
theorem dX6_stands_475 : decode cX6_stands 475 = .ok (.iconst 1, 1) := by decide +kernel
theorem dX6_stands_476 : decode cX6_stands 476 = .ok (.if_icmp .ne 27, 3) := by decide +kernel
theorem dX6_stands_479 : decode cX6_stands 479 = .ok (.aload_n 0, 1) := by decide +kernel
theorem dX6_stands_480 : decode cX6_stands 480 = .ok (.getfield 31, 3) := by decide +kernel
theorem dX6_stands_483 : decode cX6_stands 483 = .ok (.iload 7, 2) := by decide +kernel
theorem dX6_stands_485 : decode cX6_stands 485 = .ok (.baload, 1) := by decide +kernel
theorem dX6_stands_486 : decode cX6_stands 486 = .ok (.ifCond .eq 13, 3) := by decide +kernel
theorem dX6_stands_489 : decode cX6_stands 489 = .ok (.aload_n 0, 1) := by decide +kernel
theorem dX6_stands_490 : decode cX6_stands 490 = .ok (.getfield 31, 3) := by decide +kernel
theorem dX6_stands_493 : decode cX6_stands 493 = .ok (.iload 6, 2) := by decide +kernel
theorem dX6_stands_495 : decode cX6_stands 495 = .ok (.baload, 1) := by decide +kernel
theorem dX6_stands_496 : decode cX6_stands 496 = .ok (.ifCond .ne 7, 3) := by decide +kernel
theorem dX6_stands_499 : decode cX6_stands 499 = .ok (.iconst 1, 1) := by decide +kernel
theorem dX6_stands_500 : decode cX6_stands 500 = .ok (.goto 4, 3) := by decide +kernel
theorem dX6_stands_503 : decode cX6_stands 503 = .ok (.iconst 0, 1) := by decide +kernel
theorem dX6_stands_504 : decode cX6_stands 504 = .ok (.ireturn, 1) := by decide +kernel
theorem dX6_stands_505 : decode cX6_stands 505 = .ok (.aload_n 0, 1) := by decide +kernel
theorem dX6_stands_506 : decode cX6_stands 506 = .ok (.getfield 38, 3) := by decide +kernel
theorem dX6_stands_509 : decode cX6_stands 509 = .ok (.iload_n 1, 1) := by decide +kernel
theorem dX6_stands_510 : decode cX6_stands 510 = .ok (.iaload, 1) := by decide +kernel
theorem dX6_stands_511 : decode cX6_stands 511 = .ok (.iconst 2, 1) := by decide +kernel
theorem dX6_stands_512 : decode cX6_stands 512 = .ok (.if_icmp .ne 57, 3) := by decide +kernel
theorem dX6_stands_515 : decode cX6_stands 515 = .ok (.iload 4, 2) := by decide +kernel
theorem dX6_stands_517 : decode cX6_stands 517 = .ok (.iconst 2, 1) := by decide +kernel
theorem dX6_stands_518 : decode cX6_stands 518 = .ok (.if_icmp .ne 51, 3) := by decide +kernel
theorem dX6_stands_521 : decode cX6_stands 521 = .ok (.aload_n 0, 1) := by decide +kernel
theorem dX6_stands_522 : decode cX6_stands 522 = .ok (.getfield 47, 3) := by decide +kernel
theorem dX6_stands_525 : decode cX6_stands 525 = .ok (.iload_n 1, 1) := by decide +kernel
theorem dX6_stands_526 : decode cX6_stands 526 = .ok (.iaload, 1) := by decide +kernel
theorem dX6_stands_527 : decode cX6_stands 527 = .ok (.aload_n 0, 1) := by decide +kernel
theorem dX6_stands_528 : decode cX6_stands 528 = .ok (.getfield 47, 3) := by decide +kernel
theorem dX6_stands_531 : decode cX6_stands 531 = .ok (.iload_n 3, 1) := by decide +kernel
theorem dX6_stands_532 : decode cX6_stands 532 = .ok (.iaload, 1) := by decide +kernel
theorem dX6_stands_533 : decode cX6_stands 533 = .ok (.if_icmp .ne 36, 3) := by decide +kernel
theorem dX6_stands_536 : decode cX6_stands 536 = .ok (.aload_n 0, 1) := by decide +kernel
theorem dX6_stands_537 : decode cX6_stands 537 = .ok (.getfield 28, 3) := by decide +kernel
theorem dX6_stands_540 : decode cX6_stands 540 = .ok (.iload 6, 2) := by decide +kernel
theorem dX6_stands_542 : decode cX6_stands 542 = .ok (.iaload, 1) := by decide +kernel
theorem dX6_stands_543 : decode cX6_stands 543 = .ok (.aload_n 0, 1) := by decide +kernel
theorem dX6_stands_544 : decode cX6_stands 544 = .ok (.getfield 47, 3) := by decide +kernel
theorem dX6_stands_547 : decode cX6_stands 547 = .ok (.iload_n 1, 1) := by decide +kernel
theorem dX6_stands_548 : decode cX6_stands 548 = .ok (.iaload, 1) := by decide +kernel
theorem dX6_stands_549 : decode cX6_stands 549 = .ok (.ishr, 1) := by decide +kernel
theorem dX6_stands_550 : decode cX6_stands 550 = .ok (.iconst 1, 1) := by decide +kernel
theorem dX6_stands_551 : decode cX6_stands 551 = .ok (.iand, 1) := by decide +kernel
theorem dX6_stands_552 : decode cX6_stands 552 = .ok (.ifCond .ne 17, 3) := by decide +kernel
theorem dX6_stands_555 : decode cX6_stands 555 = .ok (.aload_n 0, 1) := by decide +kernel
theorem dX6_stands_556 : decode cX6_stands 556 = .ok (.getfield 31, 3) := by decide +kernel
theorem dX6_stands_559 : decode cX6_stands 559 = .ok (.iload 7, 2) := by decide +kernel
theorem dX6_stands_561 : decode cX6_stands 561 = .ok (.baload, 1) := by decide +kernel
theorem dX6_stands_562 : decode cX6_stands 562 = .ok (.ifCond .ne 7, 3) := by decide +kernel
theorem dX6_stands_565 : decode cX6_stands 565 = .ok (.iconst 1, 1) := by decide +kernel
theorem dX6_stands_566 : decode cX6_stands 566 = .ok (.goto 4, 3) := by decide +kernel
theorem dX6_stands_569 : decode cX6_stands 569 = .ok (.iconst 0, 1) := by decide +kernel
theorem dX6_stands_570 : decode cX6_stands 570 = .ok (.ireturn, 1) := by decide +kernel
theorem dX6_stands_571 : decode cX6_stands 571 = .ok (.aload_n 0, 1) := by decide +kernel
theorem dX6_stands_572 : decode cX6_stands 572 = .ok (.getfield 38, 3) := by decide +kernel
theorem dX6_stands_575 : decode cX6_stands 575 = .ok (.iload_n 1, 1) := by decide +kernel
theorem dX6_stands_576 : decode cX6_stands 576 = .ok (.iaload, 1) := by decide +kernel
theorem dX6_stands_577 : decode cX6_stands 577 = .ok (.iconst 3, 1) := by decide +kernel
theorem dX6_stands_578 : decode cX6_stands 578 = .ok (.if_icmp .ne 13, 3) := by decide +kernel
theorem dX6_stands_581 : decode cX6_stands 581 = .ok (.iload 4, 2) := by decide +kernel
theorem dX6_stands_583 : decode cX6_stands 583 = .ok (.iconst 3, 1) := by decide +kernel
theorem dX6_stands_584 : decode cX6_stands 584 = .ok (.if_icmp .ne 7, 3) := by decide +kernel
theorem dX6_stands_587 : decode cX6_stands 587 = .ok (.iconst 1, 1) := by decide +kernel
theorem dX6_stands_588 : decode cX6_stands 588 = .ok (.goto 4, 3) := by decide +kernel
theorem dX6_stands_591 : decode cX6_stands 591 = .ok (.iconst 0, 1) := by decide +kernel
theorem dX6_stands_592 : decode cX6_stands 592 = .ok (.ireturn, 1) := by decide +kernel
theorem dX6_stands_593 : decode cX6_stands 593 = .ok (.aload_n 0, 1) := by decide +kernel
theorem dX6_stands_594 : decode cX6_stands 594 = .ok (.getfield 38, 3) := by decide +kernel
theorem dX6_stands_597 : decode cX6_stands 597 = .ok (.iload_n 1, 1) := by decide +kernel
theorem dX6_stands_598 : decode cX6_stands 598 = .ok (.iaload, 1) := by decide +kernel
theorem dX6_stands_599 : decode cX6_stands 599 = .ok (.iconst 3, 1) := by decide +kernel
theorem dX6_stands_600 : decode cX6_stands 600 = .ok (.if_icmp .ne 37, 3) := by decide +kernel
theorem dX6_stands_603 : decode cX6_stands 603 = .ok (.iload 4, 2) := by decide +kernel
theorem dX6_stands_605 : decode cX6_stands 605 = .ok (.iconst 2, 1) := by decide +kernel
theorem dX6_stands_606 : decode cX6_stands 606 = .ok (.if_icmp .ne 31, 3) := by decide +kernel
theorem dX6_stands_609 : decode cX6_stands 609 = .ok (.iload 5, 2) := by decide +kernel
theorem dX6_stands_611 : decode cX6_stands 611 = .ok (.aload_n 0, 1) := by decide +kernel
theorem dX6_stands_612 : decode cX6_stands 612 = .ok (.getfield 47, 3) := by decide +kernel
theorem dX6_stands_615 : decode cX6_stands 615 = .ok (.iload_n 3, 1) := by decide +kernel
theorem dX6_stands_616 : decode cX6_stands 616 = .ok (.iaload, 1) := by decide +kernel
theorem dX6_stands_617 : decode cX6_stands 617 = .ok (.ishr, 1) := by decide +kernel
theorem dX6_stands_618 : decode cX6_stands 618 = .ok (.iconst 1, 1) := by decide +kernel
theorem dX6_stands_619 : decode cX6_stands 619 = .ok (.iand, 1) := by decide +kernel
theorem dX6_stands_620 : decode cX6_stands 620 = .ok (.ifCond .ne 17, 3) := by decide +kernel
theorem dX6_stands_623 : decode cX6_stands 623 = .ok (.aload_n 0, 1) := by decide +kernel
theorem dX6_stands_624 : decode cX6_stands 624 = .ok (.getfield 31, 3) := by decide +kernel
theorem dX6_stands_627 : decode cX6_stands 627 = .ok (.iload 7, 2) := by decide +kernel
theorem dX6_stands_629 : decode cX6_stands 629 = .ok (.baload, 1) := by decide +kernel
theorem dX6_stands_630 : decode cX6_stands 630 = .ok (.ifCond .ne 7, 3) := by decide +kernel
theorem dX6_stands_633 : decode cX6_stands 633 = .ok (.iconst 1, 1) := by decide +kernel
theorem dX6_stands_634 : decode cX6_stands 634 = .ok (.goto 4, 3) := by decide +kernel
theorem dX6_stands_637 : decode cX6_stands 637 = .ok (.iconst 0, 1) := by decide +kernel
theorem dX6_stands_638 : decode cX6_stands 638 = .ok (.ireturn, 1) := by decide +kernel
theorem dX6_stands_639 : decode cX6_stands 639 = .ok (.aload_n 0, 1) := by decide +kernel
theorem dX6_stands_640 : decode cX6_stands 640 = .ok (.getfield 38, 3) := by decide +kernel
theorem dX6_stands_643 : decode cX6_stands 643 = .ok (.iload_n 1, 1) := by decide +kernel
theorem dX6_stands_644 : decode cX6_stands 644 = .ok (.iaload, 1) := by decide +kernel
theorem dX6_stands_645 : decode cX6_stands 645 = .ok (.iconst 3, 1) := by decide +kernel
theorem dX6_stands_646 : decode cX6_stands 646 = .ok (.if_icmp .ne 13, 3) := by decide +kernel
theorem dX6_stands_649 : decode cX6_stands 649 = .ok (.iload 4, 2) := by decide +kernel
theorem dX6_stands_651 : decode cX6_stands 651 = .ok (.iconst 5, 1) := by decide +kernel
theorem dX6_stands_652 : decode cX6_stands 652 = .ok (.if_icmp .ne 7, 3) := by decide +kernel
theorem dX6_stands_655 : decode cX6_stands 655 = .ok (.iconst 1, 1) := by decide +kernel
theorem dX6_stands_656 : decode cX6_stands 656 = .ok (.goto 4, 3) := by decide +kernel
theorem dX6_stands_659 : decode cX6_stands 659 = .ok (.iconst 0, 1) := by decide +kernel
theorem dX6_stands_660 : decode cX6_stands 660 = .ok (.ireturn, 1) := by decide +kernel
theorem dX6_stands_661 : decode cX6_stands 661 = .ok (.aload_n 0, 1) := by decide +kernel
theorem dX6_stands_662 : decode cX6_stands 662 = .ok (.getfield 38, 3) := by decide +kernel
theorem dX6_stands_665 : decode cX6_stands 665 = .ok (.iload_n 1, 1) := by decide +kernel
theorem dX6_stands_666 : decode cX6_stands 666 = .ok (.iaload, 1) := by decide +kernel
theorem dX6_stands_667 : decode cX6_stands 667 = .ok (.bipush 6, 2) := by decide +kernel
theorem dX6_stands_669 : decode cX6_stands 669 = .ok (.if_icmp .ne 55, 3) := by decide +kernel
theorem dX6_stands_672 : decode cX6_stands 672 = .ok (.iload 4, 2) := by decide +kernel
theorem dX6_stands_674 : decode cX6_stands 674 = .ok (.iconst 5, 1) := by decide +kernel
theorem dX6_stands_675 : decode cX6_stands 675 = .ok (.if_icmp .ne 49, 3) := by decide +kernel
theorem dX6_stands_678 : decode cX6_stands 678 = .ok (.aload_n 0, 1) := by decide +kernel
theorem dX6_stands_679 : decode cX6_stands 679 = .ok (.aload_n 0, 1) := by decide +kernel
theorem dX6_stands_680 : decode cX6_stands 680 = .ok (.getfield 41, 3) := by decide +kernel
theorem dX6_stands_683 : decode cX6_stands 683 = .ok (.iload_n 3, 1) := by decide +kernel
theorem dX6_stands_684 : decode cX6_stands 684 = .ok (.iaload, 1) := by decide +kernel
theorem dX6_stands_685 : decode cX6_stands 685 = .ok (.aload_n 0, 1) := by decide +kernel
theorem dX6_stands_686 : decode cX6_stands 686 = .ok (.getfield 47, 3) := by decide +kernel
theorem dX6_stands_689 : decode cX6_stands 689 = .ok (.iload_n 1, 1) := by decide +kernel
theorem dX6_stands_690 : decode cX6_stands 690 = .ok (.iaload, 1) := by decide +kernel
theorem dX6_stands_691 : decode cX6_stands 691 = .ok (.iload 5, 2) := by decide +kernel
theorem dX6_stands_693 : decode cX6_stands 693 = .ok (.invokevirtual 241, 3) := by decide +kernel
theorem dX6_stands_696 : decode cX6_stands 696 = .ok (.ifCond .eq 24, 3) := by decide +kernel
theorem dX6_stands_699 : decode cX6_stands 699 = .ok (.aload_n 0, 1) := by decide +kernel
theorem dX6_stands_700 : decode cX6_stands 700 = .ok (.aload_n 0, 1) := by decide +kernel
theorem dX6_stands_701 : decode cX6_stands 701 = .ok (.getfield 44, 3) := by decide +kernel
theorem dX6_stands_704 : decode cX6_stands 704 = .ok (.iload_n 3, 1) := by decide +kernel
theorem dX6_stands_705 : decode cX6_stands 705 = .ok (.iaload, 1) := by decide +kernel
theorem dX6_stands_706 : decode cX6_stands 706 = .ok (.aload_n 0, 1) := by decide +kernel
theorem dX6_stands_707 : decode cX6_stands 707 = .ok (.getfield 47, 3) := by decide +kernel
theorem dX6_stands_710 : decode cX6_stands 710 = .ok (.iload_n 1, 1) := by decide +kernel
theorem dX6_stands_711 : decode cX6_stands 711 = .ok (.iaload, 1) := by decide +kernel
theorem dX6_stands_712 : decode cX6_stands 712 = .ok (.iload 5, 2) := by decide +kernel
theorem dX6_stands_714 : decode cX6_stands 714 = .ok (.invokevirtual 241, 3) := by decide +kernel
theorem dX6_stands_717 : decode cX6_stands 717 = .ok (.ifCond .ne 7, 3) := by decide +kernel
theorem dX6_stands_720 : decode cX6_stands 720 = .ok (.iconst 1, 1) := by decide +kernel
theorem dX6_stands_721 : decode cX6_stands 721 = .ok (.goto 4, 3) := by decide +kernel
theorem dX6_stands_724 : decode cX6_stands 724 = .ok (.iconst 0, 1) := by decide +kernel
theorem dX6_stands_725 : decode cX6_stands 725 = .ok (.ireturn, 1) := by decide +kernel
theorem dX6_stands_726 : decode cX6_stands 726 = .ok (.aload_n 0, 1) := by decide +kernel
theorem dX6_stands_727 : decode cX6_stands 727 = .ok (.getfield 38, 3) := by decide +kernel
theorem dX6_stands_730 : decode cX6_stands 730 = .ok (.iload_n 1, 1) := by decide +kernel
theorem dX6_stands_731 : decode cX6_stands 731 = .ok (.iaload, 1) := by decide +kernel
theorem dX6_stands_732 : decode cX6_stands 732 = .ok (.bipush 6, 2) := by decide +kernel
theorem dX6_stands_734 : decode cX6_stands 734 = .ok (.if_icmp .ne 38, 3) := by decide +kernel
theorem dX6_stands_737 : decode cX6_stands 737 = .ok (.iload 4, 2) := by decide +kernel
theorem dX6_stands_739 : decode cX6_stands 739 = .ok (.iconst 3, 1) := by decide +kernel
theorem dX6_stands_740 : decode cX6_stands 740 = .ok (.if_icmp .ne 32, 3) := by decide +kernel
theorem dX6_stands_743 : decode cX6_stands 743 = .ok (.iconst 1, 1) := by decide +kernel
theorem dX6_stands_744 : decode cX6_stands 744 = .ok (.aload_n 0, 1) := by decide +kernel
theorem dX6_stands_745 : decode cX6_stands 745 = .ok (.getfield 47, 3) := by decide +kernel
theorem dX6_stands_748 : decode cX6_stands 748 = .ok (.iload_n 1, 1) := by decide +kernel
theorem dX6_stands_749 : decode cX6_stands 749 = .ok (.iaload, 1) := by decide +kernel
theorem dX6_stands_750 : decode cX6_stands 750 = .ok (.ishl, 1) := by decide +kernel
theorem dX6_stands_751 : decode cX6_stands 751 = .ok (.iconst 1, 1) := by decide +kernel
theorem dX6_stands_752 : decode cX6_stands 752 = .ok (.iload 5, 2) := by decide +kernel
theorem dX6_stands_754 : decode cX6_stands 754 = .ok (.ishl, 1) := by decide +kernel
theorem dX6_stands_755 : decode cX6_stands 755 = .ok (.ior, 1) := by decide +kernel
theorem dX6_stands_756 : decode cX6_stands 756 = .ok (.aload_n 0, 1) := by decide +kernel
theorem dX6_stands_757 : decode cX6_stands 757 = .ok (.getfield 50, 3) := by decide +kernel
theorem dX6_stands_760 : decode cX6_stands 760 = .ok (.iload_n 3, 1) := by decide +kernel
theorem dX6_stands_761 : decode cX6_stands 761 = .ok (.iaload, 1) := by decide +kernel
theorem dX6_stands_762 : decode cX6_stands 762 = .ok (.invokestatic 238, 3) := by decide +kernel
theorem dX6_stands_765 : decode cX6_stands 765 = .ok (.ifCond .eq 7, 3) := by decide +kernel
theorem dX6_stands_768 : decode cX6_stands 768 = .ok (.iconst 1, 1) := by decide +kernel
theorem dX6_stands_769 : decode cX6_stands 769 = .ok (.goto 4, 3) := by decide +kernel
theorem dX6_stands_772 : decode cX6_stands 772 = .ok (.iconst 0, 1) := by decide +kernel
theorem dX6_stands_773 : decode cX6_stands 773 = .ok (.ireturn, 1) := by decide +kernel
theorem dX6_stands_774 : decode cX6_stands 774 = .ok (.aload_n 0, 1) := by decide +kernel
theorem dX6_stands_775 : decode cX6_stands 775 = .ok (.getfield 38, 3) := by decide +kernel
theorem dX6_stands_778 : decode cX6_stands 778 = .ok (.iload_n 1, 1) := by decide +kernel
theorem dX6_stands_779 : decode cX6_stands 779 = .ok (.iaload, 1) := by decide +kernel
theorem dX6_stands_780 : decode cX6_stands 780 = .ok (.bipush 7, 2) := by decide +kernel
theorem dX6_stands_782 : decode cX6_stands 782 = .ok (.if_icmp .ne 14, 3) := by decide +kernel
theorem dX6_stands_785 : decode cX6_stands 785 = .ok (.iload 4, 2) := by decide +kernel
theorem dX6_stands_787 : decode cX6_stands 787 = .ok (.bipush 7, 2) := by decide +kernel
theorem dX6_stands_789 : decode cX6_stands 789 = .ok (.if_icmp .ne 7, 3) := by decide +kernel
theorem dX6_stands_792 : decode cX6_stands 792 = .ok (.iconst 1, 1) := by decide +kernel
theorem dX6_stands_793 : decode cX6_stands 793 = .ok (.goto 4, 3) := by decide +kernel
theorem dX6_stands_796 : decode cX6_stands 796 = .ok (.iconst 0, 1) := by decide +kernel
theorem dX6_stands_797 : decode cX6_stands 797 = .ok (.ireturn, 1) := by decide +kernel
theorem dX6_stands_798 : decode cX6_stands 798 = .ok (.aload_n 0, 1) := by decide +kernel
theorem dX6_stands_799 : decode cX6_stands 799 = .ok (.getfield 38, 3) := by decide +kernel
theorem dX6_stands_802 : decode cX6_stands 802 = .ok (.iload_n 1, 1) := by decide +kernel
theorem dX6_stands_803 : decode cX6_stands 803 = .ok (.iaload, 1) := by decide +kernel
theorem dX6_stands_804 : decode cX6_stands 804 = .ok (.bipush 8, 2) := by decide +kernel
theorem dX6_stands_806 : decode cX6_stands 806 = .ok (.if_icmp .ne 14, 3) := by decide +kernel
theorem dX6_stands_809 : decode cX6_stands 809 = .ok (.iload 4, 2) := by decide +kernel
theorem dX6_stands_811 : decode cX6_stands 811 = .ok (.bipush 8, 2) := by decide +kernel
theorem dX6_stands_813 : decode cX6_stands 813 = .ok (.if_icmp .ne 7, 3) := by decide +kernel
theorem dX6_stands_816 : decode cX6_stands 816 = .ok (.iconst 1, 1) := by decide +kernel
theorem dX6_stands_817 : decode cX6_stands 817 = .ok (.goto 4, 3) := by decide +kernel
theorem dX6_stands_820 : decode cX6_stands 820 = .ok (.iconst 0, 1) := by decide +kernel
theorem dX6_stands_821 : decode cX6_stands 821 = .ok (.ireturn, 1) := by decide +kernel
theorem dX6_stands_822 : decode cX6_stands 822 = .ok (.aload_n 0, 1) := by decide +kernel
theorem dX6_stands_823 : decode cX6_stands 823 = .ok (.getfield 38, 3) := by decide +kernel
theorem dX6_stands_826 : decode cX6_stands 826 = .ok (.iload_n 1, 1) := by decide +kernel
theorem dX6_stands_827 : decode cX6_stands 827 = .ok (.iaload, 1) := by decide +kernel
theorem dX6_stands_828 : decode cX6_stands 828 = .ok (.bipush 7, 2) := by decide +kernel
theorem dX6_stands_830 : decode cX6_stands 830 = .ok (.if_icmp .ne 45, 3) := by decide +kernel
theorem dX6_stands_833 : decode cX6_stands 833 = .ok (.iload 4, 2) := by decide +kernel
theorem dX6_stands_835 : decode cX6_stands 835 = .ok (.iconst 5, 1) := by decide +kernel
theorem dX6_stands_836 : decode cX6_stands 836 = .ok (.if_icmp .ne 39, 3) := by decide +kernel
theorem dX6_stands_839 : decode cX6_stands 839 = .ok (.aload_n 0, 1) := by decide +kernel
theorem dX6_stands_840 : decode cX6_stands 840 = .ok (.getfield 38, 3) := by decide +kernel
theorem dX6_stands_843 : decode cX6_stands 843 = .ok (.aload_n 0, 1) := by decide +kernel
theorem dX6_stands_844 : decode cX6_stands 844 = .ok (.getfield 41, 3) := by decide +kernel
theorem dX6_stands_847 : decode cX6_stands 847 = .ok (.iload_n 3, 1) := by decide +kernel
theorem dX6_stands_848 : decode cX6_stands 848 = .ok (.iaload, 1) := by decide +kernel
theorem dX6_stands_849 : decode cX6_stands 849 = .ok (.iaload, 1) := by decide +kernel
theorem dX6_stands_850 : decode cX6_stands 850 = .ok (.bipush 7, 2) := by decide +kernel
theorem dX6_stands_852 : decode cX6_stands 852 = .ok (.if_icmp .ne 19, 3) := by decide +kernel
theorem dX6_stands_855 : decode cX6_stands 855 = .ok (.aload_n 0, 1) := by decide +kernel
theorem dX6_stands_856 : decode cX6_stands 856 = .ok (.getfield 38, 3) := by decide +kernel
theorem dX6_stands_859 : decode cX6_stands 859 = .ok (.aload_n 0, 1) := by decide +kernel
theorem dX6_stands_860 : decode cX6_stands 860 = .ok (.getfield 44, 3) := by decide +kernel
theorem dX6_stands_863 : decode cX6_stands 863 = .ok (.iload_n 3, 1) := by decide +kernel
theorem dX6_stands_864 : decode cX6_stands 864 = .ok (.iaload, 1) := by decide +kernel
theorem dX6_stands_865 : decode cX6_stands 865 = .ok (.iaload, 1) := by decide +kernel
theorem dX6_stands_866 : decode cX6_stands 866 = .ok (.bipush 7, 2) := by decide +kernel
theorem dX6_stands_868 : decode cX6_stands 868 = .ok (.if_icmp .eq 7, 3) := by decide +kernel
theorem dX6_stands_871 : decode cX6_stands 871 = .ok (.iconst 1, 1) := by decide +kernel
theorem dX6_stands_872 : decode cX6_stands 872 = .ok (.goto 4, 3) := by decide +kernel
theorem dX6_stands_875 : decode cX6_stands 875 = .ok (.iconst 0, 1) := by decide +kernel
theorem dX6_stands_876 : decode cX6_stands 876 = .ok (.ireturn, 1) := by decide +kernel
theorem dX6_stands_877 : decode cX6_stands 877 = .ok (.aload_n 0, 1) := by decide +kernel
theorem dX6_stands_878 : decode cX6_stands 878 = .ok (.getfield 38, 3) := by decide +kernel
theorem dX6_stands_881 : decode cX6_stands 881 = .ok (.iload_n 1, 1) := by decide +kernel
theorem dX6_stands_882 : decode cX6_stands 882 = .ok (.iaload, 1) := by decide +kernel
theorem dX6_stands_883 : decode cX6_stands 883 = .ok (.bipush 8, 2) := by decide +kernel
theorem dX6_stands_885 : decode cX6_stands 885 = .ok (.if_icmp .ne 23, 3) := by decide +kernel
theorem dX6_stands_888 : decode cX6_stands 888 = .ok (.iload 4, 2) := by decide +kernel
theorem dX6_stands_890 : decode cX6_stands 890 = .ok (.iconst 2, 1) := by decide +kernel
theorem dX6_stands_891 : decode cX6_stands 891 = .ok (.if_icmp .ne 17, 3) := by decide +kernel
theorem dX6_stands_894 : decode cX6_stands 894 = .ok (.aload_n 0, 1) := by decide +kernel
theorem dX6_stands_895 : decode cX6_stands 895 = .ok (.getfield 31, 3) := by decide +kernel
theorem dX6_stands_898 : decode cX6_stands 898 = .ok (.iload 7, 2) := by decide +kernel
theorem dX6_stands_900 : decode cX6_stands 900 = .ok (.baload, 1) := by decide +kernel
theorem dX6_stands_901 : decode cX6_stands 901 = .ok (.ifCond .ne 7, 3) := by decide +kernel
theorem dX6_stands_904 : decode cX6_stands 904 = .ok (.iconst 1, 1) := by decide +kernel
theorem dX6_stands_905 : decode cX6_stands 905 = .ok (.goto 4, 3) := by decide +kernel
theorem dX6_stands_908 : decode cX6_stands 908 = .ok (.iconst 0, 1) := by decide +kernel
theorem dX6_stands_909 : decode cX6_stands 909 = .ok (.ireturn, 1) := by decide +kernel
theorem dX6_fits_0 : decode cX6_fits 0 = .ok (.aload_n 0, 1) := by decide +kernel
theorem dX6_fits_1 : decode cX6_fits 1 = .ok (.iload_n 1, 1) := by decide +kernel
theorem dX6_fits_2 : decode cX6_fits 2 = .ok (.invokevirtual 148, 3) := by decide +kernel
theorem dX6_fits_5 : decode cX6_fits 5 = .ok (.ifCond .eq 15, 3) := by decide +kernel
theorem dX6_fits_8 : decode cX6_fits 8 = .ok (.iload_n 2, 1) := by decide +kernel
theorem dX6_fits_9 : decode cX6_fits 9 = .ok (.i2l, 1) := by decide +kernel
theorem dX6_fits_10 : decode cX6_fits 10 = .ok (.lconst 0, 1) := by decide +kernel
theorem dX6_fits_11 : decode cX6_fits 11 = .ok (.ldc2_w 244, 3) := by decide +kernel
theorem dX6_fits_14 : decode cX6_fits 14 = .ok (.invokestatic 90, 3) := by decide +kernel
theorem dX6_fits_17 : decode cX6_fits 17 = .ok (.ifCond .ne 5, 3) := by decide +kernel
theorem dX6_fits_20 : decode cX6_fits 20 = .ok (.iconst (-1), 1) := by decide +kernel
theorem dX6_fits_21 : decode cX6_fits 21 = .ok (.ireturn, 1) := by decide +kernel
theorem dX6_fits_22 : decode cX6_fits 22 = .ok (.aload_n 0, 1) := by decide +kernel
theorem dX6_fits_23 : decode cX6_fits 23 = .ok (.invokevirtual 159, 3) := by decide +kernel
theorem dX6_fits_26 : decode cX6_fits 26 = .ok (.aload_n 0, 1) := by decide +kernel
theorem dX6_fits_27 : decode cX6_fits 27 = .ok (.iload_n 1, 1) := by decide +kernel
theorem dX6_fits_28 : decode cX6_fits 28 = .ok (.iload_n 2, 1) := by decide +kernel
theorem dX6_fits_29 : decode cX6_fits 29 = .ok (.invokevirtual 246, 3) := by decide +kernel
theorem dX6_fits_32 : decode cX6_fits 32 = .ok (.ifCond .eq 7, 3) := by decide +kernel
theorem dX6_fits_35 : decode cX6_fits 35 = .ok (.iconst 1, 1) := by decide +kernel
theorem dX6_fits_36 : decode cX6_fits 36 = .ok (.goto 4, 3) := by decide +kernel
theorem dX6_fits_39 : decode cX6_fits 39 = .ok (.iconst 0, 1) := by decide +kernel
theorem dX6_fits_40 : decode cX6_fits 40 = .ok (.ireturn, 1) := by decide +kernel
theorem dX6_news_0 : decode cX6_news 0 = .ok (.iload_n 0, 1) := by decide +kernel
theorem dX6_news_1 : decode cX6_news 1 = .ok (.iconst 4, 1) := by decide +kernel
theorem dX6_news_2 : decode cX6_news 2 = .ok (.if_icmp .eq 9, 3) := by decide +kernel
theorem dX6_news_5 : decode cX6_news 5 = .ok (.iload_n 0, 1) := by decide +kernel
theorem dX6_news_6 : decode cX6_news 6 = .ok (.bipush 11, 2) := by decide +kernel
theorem dX6_news_8 : decode cX6_news 8 = .ok (.if_icmp .ne 7, 3) := by decide +kernel
theorem dX6_news_11 : decode cX6_news 11 = .ok (.iconst 2, 1) := by decide +kernel
theorem dX6_news_12 : decode cX6_news 12 = .ok (.goto 52, 3) := by decide +kernel
theorem dX6_news_15 : decode cX6_news 15 = .ok (.iload_n 0, 1) := by decide +kernel
theorem dX6_news_16 : decode cX6_news 16 = .ok (.bipush 12, 2) := by decide +kernel
theorem dX6_news_18 : decode cX6_news 18 = .ok (.if_icmp .eq 9, 3) := by decide +kernel
theorem dX6_news_21 : decode cX6_news 21 = .ok (.iload_n 0, 1) := by decide +kernel
theorem dX6_news_22 : decode cX6_news 22 = .ok (.bipush 16, 2) := by decide +kernel
theorem dX6_news_24 : decode cX6_news 24 = .ok (.if_icmp .ne 7, 3) := by decide +kernel
theorem dX6_news_27 : decode cX6_news 27 = .ok (.iconst 3, 1) := by decide +kernel
theorem dX6_news_28 : decode cX6_news 28 = .ok (.goto 36, 3) := by decide +kernel
theorem dX6_news_31 : decode cX6_news 31 = .ok (.iload_n 0, 1) := by decide +kernel
theorem dX6_news_32 : decode cX6_news 32 = .ok (.i2l, 1) := by decide +kernel
theorem dX6_news_33 : decode cX6_news 33 = .ok (.ldc2_w 94, 3) := by decide +kernel
theorem dX6_news_36 : decode cX6_news 36 = .ok (.ldc2_w 249, 3) := by decide +kernel
theorem dX6_news_39 : decode cX6_news 39 = .ok (.invokestatic 90, 3) := by decide +kernel
theorem dX6_news_42 : decode cX6_news 42 = .ok (.ifCond .ne 17, 3) := by decide +kernel
theorem dX6_news_45 : decode cX6_news 45 = .ok (.iload_n 0, 1) := by decide +kernel
theorem dX6_news_46 : decode cX6_news 46 = .ok (.i2l, 1) := by decide +kernel
theorem dX6_news_47 : decode cX6_news 47 = .ok (.ldc2_w 251, 3) := by decide +kernel
theorem dX6_news_50 : decode cX6_news 50 = .ok (.ldc2_w 253, 3) := by decide +kernel
theorem dX6_news_53 : decode cX6_news 53 = .ok (.invokestatic 90, 3) := by decide +kernel
theorem dX6_news_56 : decode cX6_news 56 = .ok (.ifCond .eq 7, 3) := by decide +kernel
theorem dX6_news_59 : decode cX6_news 59 = .ok (.iconst 0, 1) := by decide +kernel
theorem dX6_news_60 : decode cX6_news 60 = .ok (.goto 4, 3) := by decide +kernel
theorem dX6_news_63 : decode cX6_news 63 = .ok (.iconst 1, 1) := by decide +kernel
theorem dX6_news_64 : decode cX6_news 64 = .ok (.ireturn, 1) := by decide +kernel
theorem dX6_hasRoom_0 : decode cX6_hasRoom 0 = .ok (.aload_n 0, 1) := by decide +kernel
theorem dX6_hasRoom_1 : decode cX6_hasRoom 1 = .ok (.getfield 120, 3) := by decide +kernel
theorem dX6_hasRoom_4 : decode cX6_hasRoom 4 = .ok (.iload_n 2, 1) := by decide +kernel
theorem dX6_hasRoom_5 : decode cX6_hasRoom 5 = .ok (.invokestatic 255, 3) := by decide +kernel
theorem dX6_hasRoom_8 : decode cX6_hasRoom 8 = .ok (.iadd, 1) := by decide +kernel
theorem dX6_hasRoom_9 : decode cX6_hasRoom 9 = .ok (.bipush 60, 2) := by decide +kernel
theorem dX6_hasRoom_11 : decode cX6_hasRoom 11 = .ok (.if_icmp .gt 7, 3) := by decide +kernel
theorem dX6_hasRoom_14 : decode cX6_hasRoom 14 = .ok (.iconst 1, 1) := by decide +kernel
theorem dX6_hasRoom_15 : decode cX6_hasRoom 15 = .ok (.goto 4, 3) := by decide +kernel
theorem dX6_hasRoom_18 : decode cX6_hasRoom 18 = .ok (.iconst 0, 1) := by decide +kernel
theorem dX6_hasRoom_19 : decode cX6_hasRoom 19 = .ok (.istore_n 3, 1) := by decide +kernel
theorem dX6_hasRoom_20 : decode cX6_hasRoom 20 = .ok (.iload_n 2, 1) := by decide +kernel
theorem dX6_hasRoom_21 : decode cX6_hasRoom 21 = .ok (.bipush 7, 2) := by decide +kernel
theorem dX6_hasRoom_23 : decode cX6_hasRoom 23 = .ok (.if_icmp .ne 48, 3) := by decide +kernel
theorem dX6_hasRoom_26 : decode cX6_hasRoom 26 = .ok (.aload_n 0, 1) := by decide +kernel
theorem dX6_hasRoom_27 : decode cX6_hasRoom 27 = .ok (.getfield 96, 3) := by decide +kernel
theorem dX6_hasRoom_30 : decode cX6_hasRoom 30 = .ok (.bipush 40, 2) := by decide +kernel
theorem dX6_hasRoom_32 : decode cX6_hasRoom 32 = .ok (.if_icmp .ge 35, 3) := by decide +kernel
theorem dX6_hasRoom_35 : decode cX6_hasRoom 35 = .ok (.aload_n 0, 1) := by decide +kernel
theorem dX6_hasRoom_36 : decode cX6_hasRoom 36 = .ok (.bipush 9, 2) := by decide +kernel
theorem dX6_hasRoom_38 : decode cX6_hasRoom 38 = .ok (.aload_n 0, 1) := by decide +kernel
theorem dX6_hasRoom_39 : decode cX6_hasRoom 39 = .ok (.getfield 50, 3) := by decide +kernel
theorem dX6_hasRoom_42 : decode cX6_hasRoom 42 = .ok (.aload_n 0, 1) := by decide +kernel
theorem dX6_hasRoom_43 : decode cX6_hasRoom 43 = .ok (.getfield 41, 3) := by decide +kernel
theorem dX6_hasRoom_46 : decode cX6_hasRoom 46 = .ok (.iload_n 1, 1) := by decide +kernel
theorem dX6_hasRoom_47 : decode cX6_hasRoom 47 = .ok (.iaload, 1) := by decide +kernel
theorem dX6_hasRoom_48 : decode cX6_hasRoom 48 = .ok (.iaload, 1) := by decide +kernel
theorem dX6_hasRoom_49 : decode cX6_hasRoom 49 = .ok (.aload_n 0, 1) := by decide +kernel
theorem dX6_hasRoom_50 : decode cX6_hasRoom 50 = .ok (.getfield 50, 3) := by decide +kernel
theorem dX6_hasRoom_53 : decode cX6_hasRoom 53 = .ok (.iload_n 1, 1) := by decide +kernel
theorem dX6_hasRoom_54 : decode cX6_hasRoom 54 = .ok (.iaload, 1) := by decide +kernel
theorem dX6_hasRoom_55 : decode cX6_hasRoom 55 = .ok (.invokevirtual 106, 3) := by decide +kernel
theorem dX6_hasRoom_58 : decode cX6_hasRoom 58 = .ok (.bipush 30, 2) := by decide +kernel
theorem dX6_hasRoom_60 : decode cX6_hasRoom 60 = .ok (.if_icmp .gt 7, 3) := by decide +kernel
theorem dX6_hasRoom_63 : decode cX6_hasRoom 63 = .ok (.iconst 1, 1) := by decide +kernel
theorem dX6_hasRoom_64 : decode cX6_hasRoom 64 = .ok (.goto 8, 3) := by decide +kernel
theorem dX6_hasRoom_67 : decode cX6_hasRoom 67 = .ok (.iconst 0, 1) := by decide +kernel
theorem dX6_hasRoom_68 : decode cX6_hasRoom 68 = .ok (.goto 4, 3) := by decide +kernel
theorem dX6_hasRoom_71 : decode cX6_hasRoom 71 = .ok (.iload_n 3, 1) := by decide +kernel
theorem dX6_hasRoom_72 : decode cX6_hasRoom 72 = .ok (.ireturn, 1) := by decide +kernel
theorem dX6_rewrites_0 : decode cX6_rewrites 0 = .ok (.aload_n 0, 1) := by decide +kernel
theorem dX6_rewrites_1 : decode cX6_rewrites 1 = .ok (.getfield 41, 3) := by decide +kernel
theorem dX6_rewrites_4 : decode cX6_rewrites 4 = .ok (.iload_n 1, 1) := by decide +kernel
theorem dX6_rewrites_5 : decode cX6_rewrites 5 = .ok (.iaload, 1) := by decide +kernel
theorem dX6_rewrites_6 : decode cX6_rewrites 6 = .ok (.istore_n 3, 1) := by decide +kernel
theorem dX6_rewrites_7 : decode cX6_rewrites 7 = .ok (.aload_n 0, 1) := by decide +kernel
theorem dX6_rewrites_8 : decode cX6_rewrites 8 = .ok (.getfield 41, 3) := by decide +kernel
theorem dX6_rewrites_11 : decode cX6_rewrites 11 = .ok (.iload_n 3, 1) := by decide +kernel
theorem dX6_rewrites_12 : decode cX6_rewrites 12 = .ok (.iaload, 1) := by decide +kernel
theorem dX6_rewrites_13 : decode cX6_rewrites 13 = .ok (.istore 4, 2) := by decide +kernel
theorem dX6_rewrites_15 : decode cX6_rewrites 15 = .ok (.aload_n 0, 1) := by decide +kernel
theorem dX6_rewrites_16 : decode cX6_rewrites 16 = .ok (.getfield 44, 3) := by decide +kernel
theorem dX6_rewrites_19 : decode cX6_rewrites 19 = .ok (.iload_n 3, 1) := by decide +kernel
theorem dX6_rewrites_20 : decode cX6_rewrites 20 = .ok (.iaload, 1) := by decide +kernel
theorem dX6_rewrites_21 : decode cX6_rewrites 21 = .ok (.istore 5, 2) := by decide +kernel
theorem dX6_rewrites_23 : decode cX6_rewrites 23 = .ok (.aload_n 0, 1) := by decide +kernel
theorem dX6_rewrites_24 : decode cX6_rewrites 24 = .ok (.getfield 47, 3) := by decide +kernel
theorem dX6_rewrites_27 : decode cX6_rewrites 27 = .ok (.iload_n 3, 1) := by decide +kernel
theorem dX6_rewrites_28 : decode cX6_rewrites 28 = .ok (.iaload, 1) := by decide +kernel
theorem dX6_rewrites_29 : decode cX6_rewrites 29 = .ok (.istore 6, 2) := by decide +kernel
theorem dX6_rewrites_31 : decode cX6_rewrites 31 = .ok (.aload_n 0, 1) := by decide +kernel
theorem dX6_rewrites_32 : decode cX6_rewrites 32 = .ok (.getfield 50, 3) := by decide +kernel
theorem dX6_rewrites_35 : decode cX6_rewrites 35 = .ok (.iload_n 3, 1) := by decide +kernel
theorem dX6_rewrites_36 : decode cX6_rewrites 36 = .ok (.iaload, 1) := by decide +kernel
theorem dX6_rewrites_37 : decode cX6_rewrites 37 = .ok (.istore 7, 2) := by decide +kernel
theorem dX6_rewrites_39 : decode cX6_rewrites 39 = .ok (.aload_n 0, 1) := by decide +kernel
theorem dX6_rewrites_40 : decode cX6_rewrites 40 = .ok (.getfield 50, 3) := by decide +kernel
theorem dX6_rewrites_43 : decode cX6_rewrites 43 = .ok (.iload_n 1, 1) := by decide +kernel
theorem dX6_rewrites_44 : decode cX6_rewrites 44 = .ok (.iaload, 1) := by decide +kernel
theorem dX6_rewrites_45 : decode cX6_rewrites 45 = .ok (.istore 8, 2) := by decide +kernel
theorem dX6_rewrites_47 : decode cX6_rewrites 47 = .ok (.aload_n 0, 1) := by decide +kernel
theorem dX6_rewrites_48 : decode cX6_rewrites 48 = .ok (.dup, 1) := by decide +kernel
theorem dX6_rewrites_49 : decode cX6_rewrites 49 = .ok (.getfield 258, 3) := by decide +kernel
theorem dX6_rewrites_52 : decode cX6_rewrites 52 = .ok (.iconst 1, 1) := by decide +kernel
theorem dX6_rewrites_53 : decode cX6_rewrites 53 = .ok (.iadd, 1) := by decide +kernel
theorem dX6_rewrites_54 : decode cX6_rewrites 54 = .ok (.putfield 258, 3) := by decide +kernel
theorem dX6_rewrites_57 : decode cX6_rewrites 57 = .ok (.iload_n 2, 1) := by decide +kernel
theorem dX6_rewrites_58 : decode cX6_rewrites 58 = .ok (.tableswitch 597 0 16 #[82, 111, 139, 169, 199, 240, 270, 298, 325, 341, 359, 374, 415, 483, 504, 519, 547], 82) := by decide +kernel
theorem dX6_rewrites_140 : decode cX6_rewrites 140 = .ok (.aload_n 0, 1) := by decide +kernel
theorem dX6_rewrites_141 : decode cX6_rewrites 141 = .ok (.iconst 1, 1) := by decide +kernel
theorem dX6_rewrites_142 : decode cX6_rewrites 142 = .ok (.iload 4, 2) := by decide +kernel
theorem dX6_rewrites_144 : decode cX6_rewrites 144 = .ok (.iconst 0, 1) := by decide +kernel
theorem dX6_rewrites_145 : decode cX6_rewrites 145 = .ok (.iconst 0, 1) := by decide +kernel
theorem dX6_rewrites_146 : decode cX6_rewrites 146 = .ok (.iload 8, 2) := by decide +kernel
theorem dX6_rewrites_148 : decode cX6_rewrites 148 = .ok (.invokevirtual 155, 3) := by decide +kernel
theorem dX6_rewrites_151 : decode cX6_rewrites 151 = .ok (.istore 9, 2) := by decide +kernel
theorem dX6_rewrites_153 : decode cX6_rewrites 153 = .ok (.aload_n 0, 1) := by decide +kernel
theorem dX6_rewrites_154 : decode cX6_rewrites 154 = .ok (.iload_n 1, 1) := by decide +kernel
theorem dX6_rewrites_155 : decode cX6_rewrites 155 = .ok (.iconst 2, 1) := by decide +kernel
theorem dX6_rewrites_156 : decode cX6_rewrites 156 = .ok (.iload 9, 2) := by decide +kernel
theorem dX6_rewrites_158 : decode cX6_rewrites 158 = .ok (.iconst 0, 1) := by decide +kernel
theorem dX6_rewrites_159 : decode cX6_rewrites 159 = .ok (.iload 6, 2) := by decide +kernel
theorem dX6_rewrites_161 : decode cX6_rewrites 161 = .ok (.iload 7, 2) := by decide +kernel
theorem dX6_rewrites_163 : decode cX6_rewrites 163 = .ok (.invokevirtual 136, 3) := by decide +kernel
theorem dX6_rewrites_166 : decode cX6_rewrites 166 = .ok (.goto 516, 3) := by decide +kernel
theorem dX6_rewrites_169 : decode cX6_rewrites 169 = .ok (.aload_n 0, 1) := by decide +kernel
theorem dX6_rewrites_170 : decode cX6_rewrites 170 = .ok (.iconst 1, 1) := by decide +kernel
theorem dX6_rewrites_171 : decode cX6_rewrites 171 = .ok (.iload 4, 2) := by decide +kernel
theorem dX6_rewrites_173 : decode cX6_rewrites 173 = .ok (.iconst 0, 1) := by decide +kernel
theorem dX6_rewrites_174 : decode cX6_rewrites 174 = .ok (.iconst 0, 1) := by decide +kernel
theorem dX6_rewrites_175 : decode cX6_rewrites 175 = .ok (.iload 8, 2) := by decide +kernel
theorem dX6_rewrites_177 : decode cX6_rewrites 177 = .ok (.invokevirtual 155, 3) := by decide +kernel
theorem dX6_rewrites_180 : decode cX6_rewrites 180 = .ok (.istore 9, 2) := by decide +kernel
theorem dX6_rewrites_182 : decode cX6_rewrites 182 = .ok (.aload_n 0, 1) := by decide +kernel
theorem dX6_rewrites_183 : decode cX6_rewrites 183 = .ok (.iload_n 1, 1) := by decide +kernel
theorem dX6_rewrites_184 : decode cX6_rewrites 184 = .ok (.iconst 3, 1) := by decide +kernel
theorem dX6_rewrites_185 : decode cX6_rewrites 185 = .ok (.iload 9, 2) := by decide +kernel
theorem dX6_rewrites_187 : decode cX6_rewrites 187 = .ok (.iconst 0, 1) := by decide +kernel
theorem dX6_rewrites_188 : decode cX6_rewrites 188 = .ok (.iconst 0, 1) := by decide +kernel
theorem dX6_rewrites_189 : decode cX6_rewrites 189 = .ok (.iload 7, 2) := by decide +kernel
theorem dX6_rewrites_191 : decode cX6_rewrites 191 = .ok (.invokevirtual 136, 3) := by decide +kernel
theorem dX6_rewrites_194 : decode cX6_rewrites 194 = .ok (.goto 488, 3) := by decide +kernel
theorem dX6_rewrites_197 : decode cX6_rewrites 197 = .ok (.aload_n 0, 1) := by decide +kernel
theorem dX6_rewrites_198 : decode cX6_rewrites 198 = .ok (.iconst 1, 1) := by decide +kernel
theorem dX6_rewrites_199 : decode cX6_rewrites 199 = .ok (.iload 4, 2) := by decide +kernel
theorem dX6_rewrites_201 : decode cX6_rewrites 201 = .ok (.iconst 0, 1) := by decide +kernel
theorem dX6_rewrites_202 : decode cX6_rewrites 202 = .ok (.iconst 0, 1) := by decide +kernel
theorem dX6_rewrites_203 : decode cX6_rewrites 203 = .ok (.iload 8, 2) := by decide +kernel
theorem dX6_rewrites_205 : decode cX6_rewrites 205 = .ok (.invokevirtual 155, 3) := by decide +kernel
theorem dX6_rewrites_208 : decode cX6_rewrites 208 = .ok (.istore 9, 2) := by decide +kernel
theorem dX6_rewrites_210 : decode cX6_rewrites 210 = .ok (.aload_n 0, 1) := by decide +kernel
theorem dX6_rewrites_211 : decode cX6_rewrites 211 = .ok (.iload_n 1, 1) := by decide +kernel
theorem dX6_rewrites_212 : decode cX6_rewrites 212 = .ok (.iconst 4, 1) := by decide +kernel
theorem dX6_rewrites_213 : decode cX6_rewrites 213 = .ok (.iload 9, 2) := by decide +kernel
theorem dX6_rewrites_215 : decode cX6_rewrites 215 = .ok (.iload 5, 2) := by decide +kernel
theorem dX6_rewrites_217 : decode cX6_rewrites 217 = .ok (.iload 6, 2) := by decide +kernel
theorem dX6_rewrites_219 : decode cX6_rewrites 219 = .ok (.iload 7, 2) := by decide +kernel
theorem dX6_rewrites_221 : decode cX6_rewrites 221 = .ok (.invokevirtual 136, 3) := by decide +kernel
theorem dX6_rewrites_224 : decode cX6_rewrites 224 = .ok (.goto 458, 3) := by decide +kernel
theorem dX6_rewrites_227 : decode cX6_rewrites 227 = .ok (.aload_n 0, 1) := by decide +kernel
theorem dX6_rewrites_228 : decode cX6_rewrites 228 = .ok (.iconst 1, 1) := by decide +kernel
theorem dX6_rewrites_229 : decode cX6_rewrites 229 = .ok (.iload 5, 2) := by decide +kernel
theorem dX6_rewrites_231 : decode cX6_rewrites 231 = .ok (.iconst 0, 1) := by decide +kernel
theorem dX6_rewrites_232 : decode cX6_rewrites 232 = .ok (.iconst 0, 1) := by decide +kernel
theorem dX6_rewrites_233 : decode cX6_rewrites 233 = .ok (.iload 8, 2) := by decide +kernel
theorem dX6_rewrites_235 : decode cX6_rewrites 235 = .ok (.invokevirtual 155, 3) := by decide +kernel
theorem dX6_rewrites_238 : decode cX6_rewrites 238 = .ok (.istore 9, 2) := by decide +kernel
theorem dX6_rewrites_240 : decode cX6_rewrites 240 = .ok (.aload_n 0, 1) := by decide +kernel
theorem dX6_rewrites_241 : decode cX6_rewrites 241 = .ok (.iload_n 1, 1) := by decide +kernel
theorem dX6_rewrites_242 : decode cX6_rewrites 242 = .ok (.iconst 4, 1) := by decide +kernel
theorem dX6_rewrites_243 : decode cX6_rewrites 243 = .ok (.iload 4, 2) := by decide +kernel
theorem dX6_rewrites_245 : decode cX6_rewrites 245 = .ok (.iload 9, 2) := by decide +kernel
theorem dX6_rewrites_247 : decode cX6_rewrites 247 = .ok (.iload 6, 2) := by decide +kernel
theorem dX6_rewrites_249 : decode cX6_rewrites 249 = .ok (.iload 7, 2) := by decide +kernel
theorem dX6_rewrites_251 : decode cX6_rewrites 251 = .ok (.invokevirtual 136, 3) := by decide +kernel
theorem dX6_rewrites_254 : decode cX6_rewrites 254 = .ok (.goto 428, 3) := by decide +kernel
theorem dX6_rewrites_257 : decode cX6_rewrites 257 = .ok (.aload_n 0, 1) := by decide +kernel
theorem dX6_rewrites_258 : decode cX6_rewrites 258 = .ok (.iconst 1, 1) := by decide +kernel
theorem dX6_rewrites_259 : decode cX6_rewrites 259 = .ok (.iload 4, 2) := by decide +kernel
theorem dX6_rewrites_261 : decode cX6_rewrites 261 = .ok (.iconst 0, 1) := by decide +kernel
theorem dX6_rewrites_262 : decode cX6_rewrites 262 = .ok (.iconst 0, 1) := by decide +kernel
theorem dX6_rewrites_263 : decode cX6_rewrites 263 = .ok (.iload 8, 2) := by decide +kernel
theorem dX6_rewrites_265 : decode cX6_rewrites 265 = .ok (.invokevirtual 155, 3) := by decide +kernel
theorem dX6_rewrites_268 : decode cX6_rewrites 268 = .ok (.istore 9, 2) := by decide +kernel
theorem dX6_rewrites_270 : decode cX6_rewrites 270 = .ok (.aload_n 0, 1) := by decide +kernel
theorem dX6_rewrites_271 : decode cX6_rewrites 271 = .ok (.iconst 1, 1) := by decide +kernel
theorem dX6_rewrites_272 : decode cX6_rewrites 272 = .ok (.iload 5, 2) := by decide +kernel
theorem dX6_rewrites_274 : decode cX6_rewrites 274 = .ok (.iconst 0, 1) := by decide +kernel
theorem dX6_rewrites_275 : decode cX6_rewrites 275 = .ok (.iconst 0, 1) := by decide +kernel
theorem dX6_rewrites_276 : decode cX6_rewrites 276 = .ok (.iload 8, 2) := by decide +kernel
theorem dX6_rewrites_278 : decode cX6_rewrites 278 = .ok (.invokevirtual 155, 3) := by decide +kernel
theorem dX6_rewrites_281 : decode cX6_rewrites 281 = .ok (.istore 10, 2) := by decide +kernel
theorem dX6_rewrites_283 : decode cX6_rewrites 283 = .ok (.aload_n 0, 1) := by decide +kernel
theorem dX6_rewrites_284 : decode cX6_rewrites 284 = .ok (.iload_n 1, 1) := by decide +kernel
theorem dX6_rewrites_285 : decode cX6_rewrites 285 = .ok (.iconst 5, 1) := by decide +kernel
theorem dX6_rewrites_286 : decode cX6_rewrites 286 = .ok (.iload 9, 2) := by decide +kernel
theorem dX6_rewrites_288 : decode cX6_rewrites 288 = .ok (.iload 10, 2) := by decide +kernel
theorem dX6_rewrites_290 : decode cX6_rewrites 290 = .ok (.iconst 0, 1) := by decide +kernel
theorem dX6_rewrites_291 : decode cX6_rewrites 291 = .ok (.iconst 0, 1) := by decide +kernel
theorem dX6_rewrites_292 : decode cX6_rewrites 292 = .ok (.invokevirtual 136, 3) := by decide +kernel
theorem dX6_rewrites_295 : decode cX6_rewrites 295 = .ok (.goto 387, 3) := by decide +kernel
theorem dX6_rewrites_298 : decode cX6_rewrites 298 = .ok (.aload_n 0, 1) := by decide +kernel
theorem dX6_rewrites_299 : decode cX6_rewrites 299 = .ok (.iconst 1, 1) := by decide +kernel
theorem dX6_rewrites_300 : decode cX6_rewrites 300 = .ok (.iload 4, 2) := by decide +kernel
theorem dX6_rewrites_302 : decode cX6_rewrites 302 = .ok (.iconst 0, 1) := by decide +kernel
theorem dX6_rewrites_303 : decode cX6_rewrites 303 = .ok (.iconst 0, 1) := by decide +kernel
theorem dX6_rewrites_304 : decode cX6_rewrites 304 = .ok (.iload 8, 2) := by decide +kernel
theorem dX6_rewrites_306 : decode cX6_rewrites 306 = .ok (.invokevirtual 155, 3) := by decide +kernel
theorem dX6_rewrites_309 : decode cX6_rewrites 309 = .ok (.istore 9, 2) := by decide +kernel
theorem dX6_rewrites_311 : decode cX6_rewrites 311 = .ok (.aload_n 0, 1) := by decide +kernel
theorem dX6_rewrites_312 : decode cX6_rewrites 312 = .ok (.iload_n 1, 1) := by decide +kernel
theorem dX6_rewrites_313 : decode cX6_rewrites 313 = .ok (.bipush 6, 2) := by decide +kernel
theorem dX6_rewrites_315 : decode cX6_rewrites 315 = .ok (.iload 9, 2) := by decide +kernel
theorem dX6_rewrites_317 : decode cX6_rewrites 317 = .ok (.iconst 0, 1) := by decide +kernel
theorem dX6_rewrites_318 : decode cX6_rewrites 318 = .ok (.iload 6, 2) := by decide +kernel
theorem dX6_rewrites_320 : decode cX6_rewrites 320 = .ok (.iload 7, 2) := by decide +kernel
theorem dX6_rewrites_322 : decode cX6_rewrites 322 = .ok (.invokevirtual 136, 3) := by decide +kernel
theorem dX6_rewrites_325 : decode cX6_rewrites 325 = .ok (.goto 357, 3) := by decide +kernel
theorem dX6_rewrites_328 : decode cX6_rewrites 328 = .ok (.aload_n 0, 1) := by decide +kernel
theorem dX6_rewrites_329 : decode cX6_rewrites 329 = .ok (.iconst 1, 1) := by decide +kernel
theorem dX6_rewrites_330 : decode cX6_rewrites 330 = .ok (.iload 4, 2) := by decide +kernel
theorem dX6_rewrites_332 : decode cX6_rewrites 332 = .ok (.iconst 0, 1) := by decide +kernel
theorem dX6_rewrites_333 : decode cX6_rewrites 333 = .ok (.iconst 0, 1) := by decide +kernel
theorem dX6_rewrites_334 : decode cX6_rewrites 334 = .ok (.iload 8, 2) := by decide +kernel
theorem dX6_rewrites_336 : decode cX6_rewrites 336 = .ok (.invokevirtual 155, 3) := by decide +kernel
theorem dX6_rewrites_339 : decode cX6_rewrites 339 = .ok (.istore 9, 2) := by decide +kernel
theorem dX6_rewrites_341 : decode cX6_rewrites 341 = .ok (.aload_n 0, 1) := by decide +kernel
theorem dX6_rewrites_342 : decode cX6_rewrites 342 = .ok (.iload_n 1, 1) := by decide +kernel
theorem dX6_rewrites_343 : decode cX6_rewrites 343 = .ok (.bipush 7, 2) := by decide +kernel
theorem dX6_rewrites_345 : decode cX6_rewrites 345 = .ok (.iload 9, 2) := by decide +kernel
theorem dX6_rewrites_347 : decode cX6_rewrites 347 = .ok (.iconst 0, 1) := by decide +kernel
theorem dX6_rewrites_348 : decode cX6_rewrites 348 = .ok (.iconst 0, 1) := by decide +kernel
theorem dX6_rewrites_349 : decode cX6_rewrites 349 = .ok (.iconst 0, 1) := by decide +kernel
theorem dX6_rewrites_350 : decode cX6_rewrites 350 = .ok (.invokevirtual 136, 3) := by decide +kernel
theorem dX6_rewrites_353 : decode cX6_rewrites 353 = .ok (.goto 329, 3) := by decide +kernel
theorem dX6_rewrites_356 : decode cX6_rewrites 356 = .ok (.aload_n 0, 1) := by decide +kernel
theorem dX6_rewrites_357 : decode cX6_rewrites 357 = .ok (.bipush 9, 2) := by decide +kernel
theorem dX6_rewrites_359 : decode cX6_rewrites 359 = .ok (.iload 7, 2) := by decide +kernel
theorem dX6_rewrites_361 : decode cX6_rewrites 361 = .ok (.iload 8, 2) := by decide +kernel
theorem dX6_rewrites_363 : decode cX6_rewrites 363 = .ok (.invokevirtual 117, 3) := by decide +kernel
theorem dX6_rewrites_366 : decode cX6_rewrites 366 = .ok (.istore 9, 2) := by decide +kernel
theorem dX6_rewrites_368 : decode cX6_rewrites 368 = .ok (.aload_n 0, 1) := by decide +kernel
theorem dX6_rewrites_369 : decode cX6_rewrites 369 = .ok (.iload_n 1, 1) := by decide +kernel
theorem dX6_rewrites_370 : decode cX6_rewrites 370 = .ok (.iconst 1, 1) := by decide +kernel
theorem dX6_rewrites_371 : decode cX6_rewrites 371 = .ok (.iload 4, 2) := by decide +kernel
theorem dX6_rewrites_373 : decode cX6_rewrites 373 = .ok (.iconst 0, 1) := by decide +kernel
theorem dX6_rewrites_374 : decode cX6_rewrites 374 = .ok (.iconst 0, 1) := by decide +kernel
theorem dX6_rewrites_375 : decode cX6_rewrites 375 = .ok (.iload 9, 2) := by decide +kernel
theorem dX6_rewrites_377 : decode cX6_rewrites 377 = .ok (.invokevirtual 136, 3) := by decide +kernel
theorem dX6_rewrites_380 : decode cX6_rewrites 380 = .ok (.goto 302, 3) := by decide +kernel
theorem dX6_rewrites_383 : decode cX6_rewrites 383 = .ok (.aload_n 0, 1) := by decide +kernel
theorem dX6_rewrites_384 : decode cX6_rewrites 384 = .ok (.iload_n 1, 1) := by decide +kernel
theorem dX6_rewrites_385 : decode cX6_rewrites 385 = .ok (.iconst 2, 1) := by decide +kernel
theorem dX6_rewrites_386 : decode cX6_rewrites 386 = .ok (.iload 4, 2) := by decide +kernel
theorem dX6_rewrites_388 : decode cX6_rewrites 388 = .ok (.iconst 0, 1) := by decide +kernel
theorem dX6_rewrites_389 : decode cX6_rewrites 389 = .ok (.iload 6, 2) := by decide +kernel
theorem dX6_rewrites_391 : decode cX6_rewrites 391 = .ok (.iload 8, 2) := by decide +kernel
theorem dX6_rewrites_393 : decode cX6_rewrites 393 = .ok (.invokevirtual 136, 3) := by decide +kernel
theorem dX6_rewrites_396 : decode cX6_rewrites 396 = .ok (.goto 286, 3) := by decide +kernel
theorem dX6_rewrites_399 : decode cX6_rewrites 399 = .ok (.aload_n 0, 1) := by decide +kernel
theorem dX6_rewrites_400 : decode cX6_rewrites 400 = .ok (.iload_n 1, 1) := by decide +kernel
theorem dX6_rewrites_401 : decode cX6_rewrites 401 = .ok (.iconst 3, 1) := by decide +kernel
theorem dX6_rewrites_402 : decode cX6_rewrites 402 = .ok (.iload 4, 2) := by decide +kernel
theorem dX6_rewrites_404 : decode cX6_rewrites 404 = .ok (.iconst 0, 1) := by decide +kernel
theorem dX6_rewrites_405 : decode cX6_rewrites 405 = .ok (.iconst 0, 1) := by decide +kernel
theorem dX6_rewrites_406 : decode cX6_rewrites 406 = .ok (.iload 7, 2) := by decide +kernel
theorem dX6_rewrites_408 : decode cX6_rewrites 408 = .ok (.iload 8, 2) := by decide +kernel
theorem dX6_rewrites_410 : decode cX6_rewrites 410 = .ok (.iand, 1) := by decide +kernel
theorem dX6_rewrites_411 : decode cX6_rewrites 411 = .ok (.invokevirtual 136, 3) := by decide +kernel
theorem dX6_rewrites_414 : decode cX6_rewrites 414 = .ok (.goto 268, 3) := by decide +kernel
theorem dX6_rewrites_417 : decode cX6_rewrites 417 = .ok (.aload_n 0, 1) := by decide +kernel
theorem dX6_rewrites_418 : decode cX6_rewrites 418 = .ok (.iload_n 1, 1) := by decide +kernel
theorem dX6_rewrites_419 : decode cX6_rewrites 419 = .ok (.iconst 3, 1) := by decide +kernel
theorem dX6_rewrites_420 : decode cX6_rewrites 420 = .ok (.iload 4, 2) := by decide +kernel
theorem dX6_rewrites_422 : decode cX6_rewrites 422 = .ok (.iconst 0, 1) := by decide +kernel
theorem dX6_rewrites_423 : decode cX6_rewrites 423 = .ok (.iconst 0, 1) := by decide +kernel
theorem dX6_rewrites_424 : decode cX6_rewrites 424 = .ok (.iload 8, 2) := by decide +kernel
theorem dX6_rewrites_426 : decode cX6_rewrites 426 = .ok (.invokevirtual 136, 3) := by decide +kernel
theorem dX6_rewrites_429 : decode cX6_rewrites 429 = .ok (.goto 253, 3) := by decide +kernel
theorem dX6_rewrites_432 : decode cX6_rewrites 432 = .ok (.aload_n 0, 1) := by decide +kernel
theorem dX6_rewrites_433 : decode cX6_rewrites 433 = .ok (.iconst 3, 1) := by decide +kernel
theorem dX6_rewrites_434 : decode cX6_rewrites 434 = .ok (.iload 4, 2) := by decide +kernel
theorem dX6_rewrites_436 : decode cX6_rewrites 436 = .ok (.iconst 0, 1) := by decide +kernel
theorem dX6_rewrites_437 : decode cX6_rewrites 437 = .ok (.iconst 0, 1) := by decide +kernel
theorem dX6_rewrites_438 : decode cX6_rewrites 438 = .ok (.iload 8, 2) := by decide +kernel
theorem dX6_rewrites_440 : decode cX6_rewrites 440 = .ok (.invokevirtual 155, 3) := by decide +kernel
theorem dX6_rewrites_443 : decode cX6_rewrites 443 = .ok (.istore 9, 2) := by decide +kernel
theorem dX6_rewrites_445 : decode cX6_rewrites 445 = .ok (.aload_n 0, 1) := by decide +kernel
theorem dX6_rewrites_446 : decode cX6_rewrites 446 = .ok (.iconst 3, 1) := by decide +kernel
theorem dX6_rewrites_447 : decode cX6_rewrites 447 = .ok (.iload 5, 2) := by decide +kernel
theorem dX6_rewrites_449 : decode cX6_rewrites 449 = .ok (.iconst 0, 1) := by decide +kernel
theorem dX6_rewrites_450 : decode cX6_rewrites 450 = .ok (.iconst 0, 1) := by decide +kernel
theorem dX6_rewrites_451 : decode cX6_rewrites 451 = .ok (.iload 8, 2) := by decide +kernel
theorem dX6_rewrites_453 : decode cX6_rewrites 453 = .ok (.invokevirtual 155, 3) := by decide +kernel
theorem dX6_rewrites_456 : decode cX6_rewrites 456 = .ok (.istore 10, 2) := by decide +kernel
theorem dX6_rewrites_458 : decode cX6_rewrites 458 = .ok (.aload_n 0, 1) := by decide +kernel
theorem dX6_rewrites_459 : decode cX6_rewrites 459 = .ok (.iload_n 1, 1) := by decide +kernel
theorem dX6_rewrites_460 : decode cX6_rewrites 460 = .ok (.iconst 5, 1) := by decide +kernel
theorem dX6_rewrites_461 : decode cX6_rewrites 461 = .ok (.iload 9, 2) := by decide +kernel
theorem dX6_rewrites_463 : decode cX6_rewrites 463 = .ok (.iload 10, 2) := by decide +kernel
theorem dX6_rewrites_465 : decode cX6_rewrites 465 = .ok (.iconst 0, 1) := by decide +kernel
theorem dX6_rewrites_466 : decode cX6_rewrites 466 = .ok (.iconst 0, 1) := by decide +kernel
theorem dX6_rewrites_467 : decode cX6_rewrites 467 = .ok (.invokevirtual 136, 3) := by decide +kernel
theorem dX6_rewrites_470 : decode cX6_rewrites 470 = .ok (.goto 212, 3) := by decide +kernel
theorem dX6_rewrites_473 : decode cX6_rewrites 473 = .ok (.aload_n 0, 1) := by decide +kernel
theorem dX6_rewrites_474 : decode cX6_rewrites 474 = .ok (.bipush 6, 2) := by decide +kernel
theorem dX6_rewrites_476 : decode cX6_rewrites 476 = .ok (.iload 4, 2) := by decide +kernel
theorem dX6_rewrites_478 : decode cX6_rewrites 478 = .ok (.iconst 0, 1) := by decide +kernel
theorem dX6_rewrites_479 : decode cX6_rewrites 479 = .ok (.aload_n 0, 1) := by decide +kernel
theorem dX6_rewrites_480 : decode cX6_rewrites 480 = .ok (.getfield 47, 3) := by decide +kernel
theorem dX6_rewrites_483 : decode cX6_rewrites 483 = .ok (.iload_n 1, 1) := by decide +kernel
theorem dX6_rewrites_484 : decode cX6_rewrites 484 = .ok (.iaload, 1) := by decide +kernel
theorem dX6_rewrites_485 : decode cX6_rewrites 485 = .ok (.iload 8, 2) := by decide +kernel
theorem dX6_rewrites_487 : decode cX6_rewrites 487 = .ok (.invokevirtual 155, 3) := by decide +kernel
theorem dX6_rewrites_490 : decode cX6_rewrites 490 = .ok (.istore 9, 2) := by decide +kernel
theorem dX6_rewrites_492 : decode cX6_rewrites 492 = .ok (.aload_n 0, 1) := by decide +kernel
theorem dX6_rewrites_493 : decode cX6_rewrites 493 = .ok (.bipush 6, 2) := by decide +kernel
theorem dX6_rewrites_495 : decode cX6_rewrites 495 = .ok (.iload 5, 2) := by decide +kernel
theorem dX6_rewrites_497 : decode cX6_rewrites 497 = .ok (.iconst 0, 1) := by decide +kernel
theorem dX6_rewrites_498 : decode cX6_rewrites 498 = .ok (.aload_n 0, 1) := by decide +kernel
theorem dX6_rewrites_499 : decode cX6_rewrites 499 = .ok (.getfield 47, 3) := by decide +kernel
theorem dX6_rewrites_502 : decode cX6_rewrites 502 = .ok (.iload_n 1, 1) := by decide +kernel
theorem dX6_rewrites_503 : decode cX6_rewrites 503 = .ok (.iaload, 1) := by decide +kernel
theorem dX6_rewrites_504 : decode cX6_rewrites 504 = .ok (.iload 8, 2) := by decide +kernel
theorem dX6_rewrites_506 : decode cX6_rewrites 506 = .ok (.invokevirtual 155, 3) := by decide +kernel
theorem dX6_rewrites_509 : decode cX6_rewrites 509 = .ok (.istore 10, 2) := by decide +kernel
theorem dX6_rewrites_511 : decode cX6_rewrites 511 = .ok (.aload_n 0, 1) := by decide +kernel
theorem dX6_rewrites_512 : decode cX6_rewrites 512 = .ok (.iload_n 1, 1) := by decide +kernel
theorem dX6_rewrites_513 : decode cX6_rewrites 513 = .ok (.bipush 6, 2) := by decide +kernel
theorem dX6_rewrites_515 : decode cX6_rewrites 515 = .ok (.aload_n 0, 1) := by decide +kernel
theorem dX6_rewrites_516 : decode cX6_rewrites 516 = .ok (.iconst 5, 1) := by decide +kernel
theorem dX6_rewrites_517 : decode cX6_rewrites 517 = .ok (.iload 9, 2) := by decide +kernel
theorem dX6_rewrites_519 : decode cX6_rewrites 519 = .ok (.iload 10, 2) := by decide +kernel
theorem dX6_rewrites_521 : decode cX6_rewrites 521 = .ok (.iconst 0, 1) := by decide +kernel
theorem dX6_rewrites_522 : decode cX6_rewrites 522 = .ok (.iconst 0, 1) := by decide +kernel
theorem dX6_rewrites_523 : decode cX6_rewrites 523 = .ok (.invokevirtual 155, 3) := by decide +kernel
theorem dX6_rewrites_526 : decode cX6_rewrites 526 = .ok (.iconst 0, 1) := by decide +kernel
theorem dX6_rewrites_527 : decode cX6_rewrites 527 = .ok (.aload_n 0, 1) := by decide +kernel
theorem dX6_rewrites_528 : decode cX6_rewrites 528 = .ok (.getfield 47, 3) := by decide +kernel
theorem dX6_rewrites_531 : decode cX6_rewrites 531 = .ok (.iload_n 1, 1) := by decide +kernel
theorem dX6_rewrites_532 : decode cX6_rewrites 532 = .ok (.iaload, 1) := by decide +kernel
theorem dX6_rewrites_533 : decode cX6_rewrites 533 = .ok (.iload 8, 2) := by decide +kernel
theorem dX6_rewrites_535 : decode cX6_rewrites 535 = .ok (.invokevirtual 136, 3) := by decide +kernel
theorem dX6_rewrites_538 : decode cX6_rewrites 538 = .ok (.goto 144, 3) := by decide +kernel
theorem dX6_rewrites_541 : decode cX6_rewrites 541 = .ok (.aload_n 0, 1) := by decide +kernel
theorem dX6_rewrites_542 : decode cX6_rewrites 542 = .ok (.iload_n 1, 1) := by decide +kernel
theorem dX6_rewrites_543 : decode cX6_rewrites 543 = .ok (.bipush 6, 2) := by decide +kernel
theorem dX6_rewrites_545 : decode cX6_rewrites 545 = .ok (.iload 4, 2) := by decide +kernel
theorem dX6_rewrites_547 : decode cX6_rewrites 547 = .ok (.iconst 0, 1) := by decide +kernel
theorem dX6_rewrites_548 : decode cX6_rewrites 548 = .ok (.aload_n 0, 1) := by decide +kernel
theorem dX6_rewrites_549 : decode cX6_rewrites 549 = .ok (.getfield 47, 3) := by decide +kernel
theorem dX6_rewrites_552 : decode cX6_rewrites 552 = .ok (.iload_n 1, 1) := by decide +kernel
theorem dX6_rewrites_553 : decode cX6_rewrites 553 = .ok (.iaload, 1) := by decide +kernel
theorem dX6_rewrites_554 : decode cX6_rewrites 554 = .ok (.iload 8, 2) := by decide +kernel
theorem dX6_rewrites_556 : decode cX6_rewrites 556 = .ok (.invokevirtual 136, 3) := by decide +kernel
theorem dX6_rewrites_559 : decode cX6_rewrites 559 = .ok (.goto 123, 3) := by decide +kernel
theorem dX6_rewrites_562 : decode cX6_rewrites 562 = .ok (.aload_n 0, 1) := by decide +kernel
theorem dX6_rewrites_563 : decode cX6_rewrites 563 = .ok (.iload_n 1, 1) := by decide +kernel
theorem dX6_rewrites_564 : decode cX6_rewrites 564 = .ok (.bipush 7, 2) := by decide +kernel
theorem dX6_rewrites_566 : decode cX6_rewrites 566 = .ok (.iload 4, 2) := by decide +kernel
theorem dX6_rewrites_568 : decode cX6_rewrites 568 = .ok (.iconst 0, 1) := by decide +kernel
theorem dX6_rewrites_569 : decode cX6_rewrites 569 = .ok (.iconst 0, 1) := by decide +kernel
theorem dX6_rewrites_570 : decode cX6_rewrites 570 = .ok (.iconst 0, 1) := by decide +kernel
theorem dX6_rewrites_571 : decode cX6_rewrites 571 = .ok (.invokevirtual 136, 3) := by decide +kernel
theorem dX6_rewrites_574 : decode cX6_rewrites 574 = .ok (.goto 108, 3) := by decide +kernel
theorem dX6_rewrites_577 : decode cX6_rewrites 577 = .ok (.aload_n 0, 1) := by decide +kernel
theorem dX6_rewrites_578 : decode cX6_rewrites 578 = .ok (.iload_n 1, 1) := by decide +kernel
theorem dX6_rewrites_579 : decode cX6_rewrites 579 = .ok (.bipush 8, 2) := by decide +kernel
theorem dX6_rewrites_581 : decode cX6_rewrites 581 = .ok (.iload 4, 2) := by decide +kernel
theorem dX6_rewrites_583 : decode cX6_rewrites 583 = .ok (.iconst 0, 1) := by decide +kernel
theorem dX6_rewrites_584 : decode cX6_rewrites 584 = .ok (.iconst 0, 1) := by decide +kernel
theorem dX6_rewrites_585 : decode cX6_rewrites 585 = .ok (.iload 7, 2) := by decide +kernel
theorem dX6_rewrites_587 : decode cX6_rewrites 587 = .ok (.iload 8, 2) := by decide +kernel
theorem dX6_rewrites_589 : decode cX6_rewrites 589 = .ok (.if_icmp .ge 8, 3) := by decide +kernel
theorem dX6_rewrites_592 : decode cX6_rewrites 592 = .ok (.iload 7, 2) := by decide +kernel
theorem dX6_rewrites_594 : decode cX6_rewrites 594 = .ok (.goto 5, 3) := by decide +kernel
theorem dX6_rewrites_597 : decode cX6_rewrites 597 = .ok (.iload 8, 2) := by decide +kernel
theorem dX6_rewrites_599 : decode cX6_rewrites 599 = .ok (.invokevirtual 136, 3) := by decide +kernel
theorem dX6_rewrites_602 : decode cX6_rewrites 602 = .ok (.goto 80, 3) := by decide +kernel
theorem dX6_rewrites_605 : decode cX6_rewrites 605 = .ok (.aload_n 0, 1) := by decide +kernel
theorem dX6_rewrites_606 : decode cX6_rewrites 606 = .ok (.bipush 7, 2) := by decide +kernel
theorem dX6_rewrites_608 : decode cX6_rewrites 608 = .ok (.iload 4, 2) := by decide +kernel
theorem dX6_rewrites_610 : decode cX6_rewrites 610 = .ok (.iconst 0, 1) := by decide +kernel
theorem dX6_rewrites_611 : decode cX6_rewrites 611 = .ok (.iconst 0, 1) := by decide +kernel
theorem dX6_rewrites_612 : decode cX6_rewrites 612 = .ok (.iconst 0, 1) := by decide +kernel
theorem dX6_rewrites_613 : decode cX6_rewrites 613 = .ok (.invokevirtual 155, 3) := by decide +kernel
theorem dX6_rewrites_616 : decode cX6_rewrites 616 = .ok (.istore 9, 2) := by decide +kernel
theorem dX6_rewrites_618 : decode cX6_rewrites 618 = .ok (.aload_n 0, 1) := by decide +kernel
theorem dX6_rewrites_619 : decode cX6_rewrites 619 = .ok (.bipush 7, 2) := by decide +kernel
theorem dX6_rewrites_621 : decode cX6_rewrites 621 = .ok (.iload 5, 2) := by decide +kernel
theorem dX6_rewrites_623 : decode cX6_rewrites 623 = .ok (.iconst 0, 1) := by decide +kernel
theorem dX6_rewrites_624 : decode cX6_rewrites 624 = .ok (.iconst 0, 1) := by decide +kernel
theorem dX6_rewrites_625 : decode cX6_rewrites 625 = .ok (.iconst 0, 1) := by decide +kernel
theorem dX6_rewrites_626 : decode cX6_rewrites 626 = .ok (.invokevirtual 155, 3) := by decide +kernel
theorem dX6_rewrites_629 : decode cX6_rewrites 629 = .ok (.istore 10, 2) := by decide +kernel
theorem dX6_rewrites_631 : decode cX6_rewrites 631 = .ok (.aload_n 0, 1) := by decide +kernel
theorem dX6_rewrites_632 : decode cX6_rewrites 632 = .ok (.iload_n 1, 1) := by decide +kernel
theorem dX6_rewrites_633 : decode cX6_rewrites 633 = .ok (.bipush 7, 2) := by decide +kernel
theorem dX6_rewrites_635 : decode cX6_rewrites 635 = .ok (.aload_n 0, 1) := by decide +kernel
theorem dX6_rewrites_636 : decode cX6_rewrites 636 = .ok (.iconst 5, 1) := by decide +kernel
theorem dX6_rewrites_637 : decode cX6_rewrites 637 = .ok (.iload 9, 2) := by decide +kernel
theorem dX6_rewrites_639 : decode cX6_rewrites 639 = .ok (.iload 10, 2) := by decide +kernel
theorem dX6_rewrites_641 : decode cX6_rewrites 641 = .ok (.iconst 0, 1) := by decide +kernel
theorem dX6_rewrites_642 : decode cX6_rewrites 642 = .ok (.iconst 0, 1) := by decide +kernel
theorem dX6_rewrites_643 : decode cX6_rewrites 643 = .ok (.invokevirtual 155, 3) := by decide +kernel
theorem dX6_rewrites_646 : decode cX6_rewrites 646 = .ok (.iconst 0, 1) := by decide +kernel
theorem dX6_rewrites_647 : decode cX6_rewrites 647 = .ok (.iconst 0, 1) := by decide +kernel
theorem dX6_rewrites_648 : decode cX6_rewrites 648 = .ok (.iconst 0, 1) := by decide +kernel
theorem dX6_rewrites_649 : decode cX6_rewrites 649 = .ok (.invokevirtual 136, 3) := by decide +kernel
theorem dX6_rewrites_652 : decode cX6_rewrites 652 = .ok (.goto 30, 3) := by decide +kernel
theorem dX6_rewrites_655 : decode cX6_rewrites 655 = .ok (.aload_n 0, 1) := by decide +kernel
theorem dX6_rewrites_656 : decode cX6_rewrites 656 = .ok (.bipush 8, 2) := by decide +kernel
theorem dX6_rewrites_658 : decode cX6_rewrites 658 = .ok (.iload 4, 2) := by decide +kernel
theorem dX6_rewrites_660 : decode cX6_rewrites 660 = .ok (.iconst 0, 1) := by decide +kernel
theorem dX6_rewrites_661 : decode cX6_rewrites 661 = .ok (.iconst 0, 1) := by decide +kernel
theorem dX6_rewrites_662 : decode cX6_rewrites 662 = .ok (.iload 8, 2) := by decide +kernel
theorem dX6_rewrites_664 : decode cX6_rewrites 664 = .ok (.invokevirtual 155, 3) := by decide +kernel
theorem dX6_rewrites_667 : decode cX6_rewrites 667 = .ok (.istore 9, 2) := by decide +kernel
theorem dX6_rewrites_669 : decode cX6_rewrites 669 = .ok (.aload_n 0, 1) := by decide +kernel
theorem dX6_rewrites_670 : decode cX6_rewrites 670 = .ok (.iload_n 1, 1) := by decide +kernel
theorem dX6_rewrites_671 : decode cX6_rewrites 671 = .ok (.iconst 2, 1) := by decide +kernel
theorem dX6_rewrites_672 : decode cX6_rewrites 672 = .ok (.iload 9, 2) := by decide +kernel
theorem dX6_rewrites_674 : decode cX6_rewrites 674 = .ok (.iconst 0, 1) := by decide +kernel
theorem dX6_rewrites_675 : decode cX6_rewrites 675 = .ok (.iload 6, 2) := by decide +kernel
theorem dX6_rewrites_677 : decode cX6_rewrites 677 = .ok (.iload 7, 2) := by decide +kernel
theorem dX6_rewrites_679 : decode cX6_rewrites 679 = .ok (.invokevirtual 136, 3) := by decide +kernel
theorem dX6_rewrites_682 : decode cX6_rewrites 682 = .ok (.return_, 1) := by decide +kernel
theorem dX6_rewrite_0 : decode cX6_rewrite 0 = .ok (.aload_n 0, 1) := by decide +kernel
theorem dX6_rewrite_1 : decode cX6_rewrite 1 = .ok (.iload_n 1, 1) := by decide +kernel
theorem dX6_rewrite_2 : decode cX6_rewrite 2 = .ok (.invokevirtual 148, 3) := by decide +kernel
theorem dX6_rewrite_5 : decode cX6_rewrite 5 = .ok (.ifCond .eq 15, 3) := by decide +kernel
theorem dX6_rewrite_8 : decode cX6_rewrite 8 = .ok (.iload_n 2, 1) := by decide +kernel
theorem dX6_rewrite_9 : decode cX6_rewrite 9 = .ok (.i2l, 1) := by decide +kernel
theorem dX6_rewrite_10 : decode cX6_rewrite 10 = .ok (.lconst 0, 1) := by decide +kernel
theorem dX6_rewrite_11 : decode cX6_rewrite 11 = .ok (.ldc2_w 244, 3) := by decide +kernel
theorem dX6_rewrite_14 : decode cX6_rewrite 14 = .ok (.invokestatic 90, 3) := by decide +kernel
theorem dX6_rewrite_17 : decode cX6_rewrite 17 = .ok (.ifCond .ne 5, 3) := by decide +kernel
theorem dX6_rewrite_20 : decode cX6_rewrite 20 = .ok (.iconst (-1), 1) := by decide +kernel
theorem dX6_rewrite_21 : decode cX6_rewrite 21 = .ok (.ireturn, 1) := by decide +kernel
theorem dX6_rewrite_22 : decode cX6_rewrite 22 = .ok (.aload_n 0, 1) := by decide +kernel
theorem dX6_rewrite_23 : decode cX6_rewrite 23 = .ok (.invokevirtual 159, 3) := by decide +kernel
theorem dX6_rewrite_26 : decode cX6_rewrite 26 = .ok (.aload_n 0, 1) := by decide +kernel
theorem dX6_rewrite_27 : decode cX6_rewrite 27 = .ok (.iload_n 1, 1) := by decide +kernel
theorem dX6_rewrite_28 : decode cX6_rewrite 28 = .ok (.iload_n 2, 1) := by decide +kernel
theorem dX6_rewrite_29 : decode cX6_rewrite 29 = .ok (.invokevirtual 246, 3) := by decide +kernel
theorem dX6_rewrite_32 : decode cX6_rewrite 32 = .ok (.ifCond .ne 6, 3) := by decide +kernel
theorem dX6_rewrite_35 : decode cX6_rewrite 35 = .ok (.bipush (-3), 2) := by decide +kernel
theorem dX6_rewrite_37 : decode cX6_rewrite 37 = .ok (.ireturn, 1) := by decide +kernel
theorem dX6_rewrite_38 : decode cX6_rewrite 38 = .ok (.aload_n 0, 1) := by decide +kernel
theorem dX6_rewrite_39 : decode cX6_rewrite 39 = .ok (.iload_n 1, 1) := by decide +kernel
theorem dX6_rewrite_40 : decode cX6_rewrite 40 = .ok (.iload_n 2, 1) := by decide +kernel
theorem dX6_rewrite_41 : decode cX6_rewrite 41 = .ok (.invokevirtual 261, 3) := by decide +kernel
theorem dX6_rewrite_44 : decode cX6_rewrite 44 = .ok (.ifCond .ne 6, 3) := by decide +kernel
theorem dX6_rewrite_47 : decode cX6_rewrite 47 = .ok (.bipush (-2), 2) := by decide +kernel
theorem dX6_rewrite_49 : decode cX6_rewrite 49 = .ok (.ireturn, 1) := by decide +kernel
theorem dX6_rewrite_50 : decode cX6_rewrite 50 = .ok (.aload_n 0, 1) := by decide +kernel
theorem dX6_rewrite_51 : decode cX6_rewrite 51 = .ok (.iload_n 1, 1) := by decide +kernel
theorem dX6_rewrite_52 : decode cX6_rewrite 52 = .ok (.iload_n 2, 1) := by decide +kernel
theorem dX6_rewrite_53 : decode cX6_rewrite 53 = .ok (.invokevirtual 264, 3) := by decide +kernel
theorem dX6_rewrite_56 : decode cX6_rewrite 56 = .ok (.aload_n 0, 1) := by decide +kernel
theorem dX6_rewrite_57 : decode cX6_rewrite 57 = .ok (.getfield 120, 3) := by decide +kernel
theorem dX6_rewrite_60 : decode cX6_rewrite 60 = .ok (.ireturn, 1) := by decide +kernel
theorem dX6_below_0 : decode cX6_below 0 = .ok (.lconst 1, 1) := by decide +kernel
theorem dX6_below_1 : decode cX6_below 1 = .ok (.iload_n 1, 1) := by decide +kernel
theorem dX6_below_2 : decode cX6_below 2 = .ok (.lshl, 1) := by decide +kernel
theorem dX6_below_3 : decode cX6_below 3 = .ok (.lstore_n 2, 1) := by decide +kernel
theorem dX6_below_4 : decode cX6_below 4 = .ok (.lconst 0, 1) := by decide +kernel
theorem dX6_below_5 : decode cX6_below 5 = .ok (.lstore 4, 2) := by decide +kernel
theorem dX6_below_7 : decode cX6_below 7 = .ok (.lload_n 2, 1) := by decide +kernel
theorem dX6_below_8 : decode cX6_below 8 = .ok (.lload 4, 2) := by decide +kernel
theorem dX6_below_10 : decode cX6_below 10 = .ok (.lcmp, 1) := by decide +kernel
theorem dX6_below_11 : decode cX6_below 11 = .ok (.ifCond .eq 89, 3) := by decide +kernel
theorem dX6_below_14 : decode cX6_below 14 = .ok (.lload_n 2, 1) := by decide +kernel
theorem dX6_below_15 : decode cX6_below 15 = .ok (.lstore 4, 2) := by decide +kernel
theorem dX6_below_17 : decode cX6_below 17 = .ok (.iconst 0, 1) := by decide +kernel
theorem dX6_below_18 : decode cX6_below 18 = .ok (.istore 6, 2) := by decide +kernel
theorem dX6_below_20 : decode cX6_below 20 = .ok (.iload 6, 2) := by decide +kernel
theorem dX6_below_22 : decode cX6_below 22 = .ok (.aload_n 0, 1) := by decide +kernel
theorem dX6_below_23 : decode cX6_below 23 = .ok (.getfield 120, 3) := by decide +kernel
theorem dX6_below_26 : decode cX6_below 26 = .ok (.if_icmp .ge 71, 3) := by decide +kernel
theorem dX6_below_29 : decode cX6_below 29 = .ok (.lload_n 2, 1) := by decide +kernel
theorem dX6_below_30 : decode cX6_below 30 = .ok (.iload 6, 2) := by decide +kernel
theorem dX6_below_32 : decode cX6_below 32 = .ok (.lshr, 1) := by decide +kernel
theorem dX6_below_33 : decode cX6_below 33 = .ok (.lconst 1, 1) := by decide +kernel
theorem dX6_below_34 : decode cX6_below 34 = .ok (.land, 1) := by decide +kernel
theorem dX6_below_35 : decode cX6_below 35 = .ok (.lconst 1, 1) := by decide +kernel
theorem dX6_below_36 : decode cX6_below 36 = .ok (.lcmp, 1) := by decide +kernel
theorem dX6_below_37 : decode cX6_below 37 = .ok (.ifCond .ne 54, 3) := by decide +kernel
theorem dX6_below_40 : decode cX6_below 40 = .ok (.aload_n 0, 1) := by decide +kernel
theorem dX6_below_41 : decode cX6_below 41 = .ok (.getfield 38, 3) := by decide +kernel
theorem dX6_below_44 : decode cX6_below 44 = .ok (.iload 6, 2) := by decide +kernel
theorem dX6_below_46 : decode cX6_below 46 = .ok (.iaload, 1) := by decide +kernel
theorem dX6_below_47 : decode cX6_below 47 = .ok (.ifCond .eq 44, 3) := by decide +kernel
theorem dX6_below_50 : decode cX6_below 50 = .ok (.lload_n 2, 1) := by decide +kernel
theorem dX6_below_51 : decode cX6_below 51 = .ok (.lconst 1, 1) := by decide +kernel
theorem dX6_below_52 : decode cX6_below 52 = .ok (.aload_n 0, 1) := by decide +kernel
theorem dX6_below_53 : decode cX6_below 53 = .ok (.getfield 41, 3) := by decide +kernel
theorem dX6_below_56 : decode cX6_below 56 = .ok (.iload 6, 2) := by decide +kernel
theorem dX6_below_58 : decode cX6_below 58 = .ok (.iaload, 1) := by decide +kernel
theorem dX6_below_59 : decode cX6_below 59 = .ok (.lshl, 1) := by decide +kernel
theorem dX6_below_60 : decode cX6_below 60 = .ok (.lor, 1) := by decide +kernel
theorem dX6_below_61 : decode cX6_below 61 = .ok (.lstore_n 2, 1) := by decide +kernel
theorem dX6_below_62 : decode cX6_below 62 = .ok (.aload_n 0, 1) := by decide +kernel
theorem dX6_below_63 : decode cX6_below 63 = .ok (.getfield 38, 3) := by decide +kernel
theorem dX6_below_66 : decode cX6_below 66 = .ok (.iload 6, 2) := by decide +kernel
theorem dX6_below_68 : decode cX6_below 68 = .ok (.iaload, 1) := by decide +kernel
theorem dX6_below_69 : decode cX6_below 69 = .ok (.invokestatic 129, 3) := by decide +kernel
theorem dX6_below_72 : decode cX6_below 72 = .ok (.ifCond .eq 17, 3) := by decide +kernel
theorem dX6_below_75 : decode cX6_below 75 = .ok (.lload_n 2, 1) := by decide +kernel
theorem dX6_below_76 : decode cX6_below 76 = .ok (.lconst 1, 1) := by decide +kernel
theorem dX6_below_77 : decode cX6_below 77 = .ok (.aload_n 0, 1) := by decide +kernel
theorem dX6_below_78 : decode cX6_below 78 = .ok (.getfield 44, 3) := by decide +kernel
theorem dX6_below_81 : decode cX6_below 81 = .ok (.iload 6, 2) := by decide +kernel
theorem dX6_below_83 : decode cX6_below 83 = .ok (.iaload, 1) := by decide +kernel
theorem dX6_below_84 : decode cX6_below 84 = .ok (.lshl, 1) := by decide +kernel
theorem dX6_below_85 : decode cX6_below 85 = .ok (.lor, 1) := by decide +kernel
theorem dX6_below_86 : decode cX6_below 86 = .ok (.goto 4, 3) := by decide +kernel
theorem dX6_below_89 : decode cX6_below 89 = .ok (.lload_n 2, 1) := by decide +kernel
theorem dX6_below_90 : decode cX6_below 90 = .ok (.lstore_n 2, 1) := by decide +kernel
theorem dX6_below_91 : decode cX6_below 91 = .ok (.iinc 6 1, 3) := by decide +kernel
theorem dX6_below_94 : decode cX6_below 94 = .ok (.goto (-74), 3) := by decide +kernel
theorem dX6_below_97 : decode cX6_below 97 = .ok (.goto (-90), 3) := by decide +kernel
theorem dX6_below_100 : decode cX6_below 100 = .ok (.lload_n 2, 1) := by decide +kernel
theorem dX6_below_101 : decode cX6_below 101 = .ok (.lreturn, 1) := by decide +kernel
theorem dX6_ruleFor_0 : decode cX6_ruleFor 0 = .ok (.iconst 0, 1) := by decide +kernel
theorem dX6_ruleFor_1 : decode cX6_ruleFor 1 = .ok (.istore_n 2, 1) := by decide +kernel
theorem dX6_ruleFor_2 : decode cX6_ruleFor 2 = .ok (.iload_n 2, 1) := by decide +kernel
theorem dX6_ruleFor_3 : decode cX6_ruleFor 3 = .ok (.bipush 18, 2) := by decide +kernel
theorem dX6_ruleFor_5 : decode cX6_ruleFor 5 = .ok (.if_icmp .ge 20, 3) := by decide +kernel
theorem dX6_ruleFor_8 : decode cX6_ruleFor 8 = .ok (.aload_n 0, 1) := by decide +kernel
theorem dX6_ruleFor_9 : decode cX6_ruleFor 9 = .ok (.iload_n 1, 1) := by decide +kernel
theorem dX6_ruleFor_10 : decode cX6_ruleFor 10 = .ok (.iload_n 2, 1) := by decide +kernel
theorem dX6_ruleFor_11 : decode cX6_ruleFor 11 = .ok (.invokevirtual 246, 3) := by decide +kernel
theorem dX6_ruleFor_14 : decode cX6_ruleFor 14 = .ok (.ifCond .eq 5, 3) := by decide +kernel
theorem dX6_ruleFor_17 : decode cX6_ruleFor 17 = .ok (.iload_n 2, 1) := by decide +kernel
theorem dX6_ruleFor_18 : decode cX6_ruleFor 18 = .ok (.ireturn, 1) := by decide +kernel
theorem dX6_ruleFor_19 : decode cX6_ruleFor 19 = .ok (.iinc 2 1, 3) := by decide +kernel
theorem dX6_ruleFor_22 : decode cX6_ruleFor 22 = .ok (.goto (-20), 3) := by decide +kernel
theorem dX6_ruleFor_25 : decode cX6_ruleFor 25 = .ok (.iconst (-1), 1) := by decide +kernel
theorem dX6_ruleFor_26 : decode cX6_ruleFor 26 = .ok (.ireturn, 1) := by decide +kernel
theorem dX6_sweep_0 : decode cX6_sweep 0 = .ok (.aload_n 0, 1) := by decide +kernel
theorem dX6_sweep_1 : decode cX6_sweep 1 = .ok (.iload_n 1, 1) := by decide +kernel
theorem dX6_sweep_2 : decode cX6_sweep 2 = .ok (.invokevirtual 148, 3) := by decide +kernel
theorem dX6_sweep_5 : decode cX6_sweep 5 = .ok (.ifCond .eq 15, 3) := by decide +kernel
theorem dX6_sweep_8 : decode cX6_sweep 8 = .ok (.iload_n 2, 1) := by decide +kernel
theorem dX6_sweep_9 : decode cX6_sweep 9 = .ok (.i2l, 1) := by decide +kernel
theorem dX6_sweep_10 : decode cX6_sweep 10 = .ok (.lconst 0, 1) := by decide +kernel
theorem dX6_sweep_11 : decode cX6_sweep 11 = .ok (.ldc2_w 127, 3) := by decide +kernel
theorem dX6_sweep_14 : decode cX6_sweep 14 = .ok (.invokestatic 90, 3) := by decide +kernel
theorem dX6_sweep_17 : decode cX6_sweep 17 = .ok (.ifCond .ne 5, 3) := by decide +kernel
theorem dX6_sweep_20 : decode cX6_sweep 20 = .ok (.iconst (-1), 1) := by decide +kernel
theorem dX6_sweep_21 : decode cX6_sweep 21 = .ok (.ireturn, 1) := by decide +kernel
theorem dX6_sweep_22 : decode cX6_sweep 22 = .ok (.iconst 0, 1) := by decide +kernel
theorem dX6_sweep_23 : decode cX6_sweep 23 = .ok (.istore_n 3, 1) := by decide +kernel
theorem dX6_sweep_24 : decode cX6_sweep 24 = .ok (.iconst 1, 1) := by decide +kernel
theorem dX6_sweep_25 : decode cX6_sweep 25 = .ok (.istore 4, 2) := by decide +kernel
theorem dX6_sweep_27 : decode cX6_sweep 27 = .ok (.iload 4, 2) := by decide +kernel
theorem dX6_sweep_29 : decode cX6_sweep 29 = .ok (.ifCond .eq 113, 3) := by decide +kernel
theorem dX6_sweep_32 : decode cX6_sweep 32 = .ok (.iload_n 3, 1) := by decide +kernel
theorem dX6_sweep_33 : decode cX6_sweep 33 = .ok (.iload_n 2, 1) := by decide +kernel
theorem dX6_sweep_34 : decode cX6_sweep 34 = .ok (.if_icmp .ge 108, 3) := by decide +kernel
theorem dX6_sweep_37 : decode cX6_sweep 37 = .ok (.aload_n 0, 1) := by decide +kernel
theorem dX6_sweep_38 : decode cX6_sweep 38 = .ok (.invokevirtual 159, 3) := by decide +kernel
theorem dX6_sweep_41 : decode cX6_sweep 41 = .ok (.aload_n 0, 1) := by decide +kernel
theorem dX6_sweep_42 : decode cX6_sweep 42 = .ok (.iload_n 1, 1) := by decide +kernel
theorem dX6_sweep_43 : decode cX6_sweep 43 = .ok (.invokevirtual 267, 3) := by decide +kernel
theorem dX6_sweep_46 : decode cX6_sweep 46 = .ok (.lstore 5, 2) := by decide +kernel
theorem dX6_sweep_48 : decode cX6_sweep 48 = .ok (.iconst 0, 1) := by decide +kernel
theorem dX6_sweep_49 : decode cX6_sweep 49 = .ok (.istore 7, 2) := by decide +kernel
theorem dX6_sweep_51 : decode cX6_sweep 51 = .ok (.iload 7, 2) := by decide +kernel
theorem dX6_sweep_53 : decode cX6_sweep 53 = .ok (.aload_n 0, 1) := by decide +kernel
theorem dX6_sweep_54 : decode cX6_sweep 54 = .ok (.getfield 120, 3) := by decide +kernel
theorem dX6_sweep_57 : decode cX6_sweep 57 = .ok (.if_icmp .ge 31, 3) := by decide +kernel
theorem dX6_sweep_60 : decode cX6_sweep 60 = .ok (.lload 5, 2) := by decide +kernel
theorem dX6_sweep_62 : decode cX6_sweep 62 = .ok (.iload 7, 2) := by decide +kernel
theorem dX6_sweep_64 : decode cX6_sweep 64 = .ok (.lshr, 1) := by decide +kernel
theorem dX6_sweep_65 : decode cX6_sweep 65 = .ok (.lconst 1, 1) := by decide +kernel
theorem dX6_sweep_66 : decode cX6_sweep 66 = .ok (.land, 1) := by decide +kernel
theorem dX6_sweep_67 : decode cX6_sweep 67 = .ok (.lconst 0, 1) := by decide +kernel
theorem dX6_sweep_68 : decode cX6_sweep 68 = .ok (.lcmp, 1) := by decide +kernel
theorem dX6_sweep_69 : decode cX6_sweep 69 = .ok (.ifCond .eq 13, 3) := by decide +kernel
theorem dX6_sweep_72 : decode cX6_sweep 72 = .ok (.aload_n 0, 1) := by decide +kernel
theorem dX6_sweep_73 : decode cX6_sweep 73 = .ok (.iload 7, 2) := by decide +kernel
theorem dX6_sweep_75 : decode cX6_sweep 75 = .ok (.invokevirtual 271, 3) := by decide +kernel
theorem dX6_sweep_78 : decode cX6_sweep 78 = .ok (.iconst (-1), 1) := by decide +kernel
theorem dX6_sweep_79 : decode cX6_sweep 79 = .ok (.if_icmp .ne 9, 3) := by decide +kernel
theorem dX6_sweep_82 : decode cX6_sweep 82 = .ok (.iinc 7 1, 3) := by decide +kernel
theorem dX6_sweep_85 : decode cX6_sweep 85 = .ok (.goto (-34), 3) := by decide +kernel
theorem dX6_sweep_88 : decode cX6_sweep 88 = .ok (.iload 7, 2) := by decide +kernel
theorem dX6_sweep_90 : decode cX6_sweep 90 = .ok (.aload_n 0, 1) := by decide +kernel
theorem dX6_sweep_91 : decode cX6_sweep 91 = .ok (.getfield 120, 3) := by decide +kernel
theorem dX6_sweep_94 : decode cX6_sweep 94 = .ok (.if_icmp .ge 22, 3) := by decide +kernel
theorem dX6_sweep_97 : decode cX6_sweep 97 = .ok (.aload_n 0, 1) := by decide +kernel
theorem dX6_sweep_98 : decode cX6_sweep 98 = .ok (.iload 7, 2) := by decide +kernel
theorem dX6_sweep_100 : decode cX6_sweep 100 = .ok (.aload_n 0, 1) := by decide +kernel
theorem dX6_sweep_101 : decode cX6_sweep 101 = .ok (.iload 7, 2) := by decide +kernel
theorem dX6_sweep_103 : decode cX6_sweep 103 = .ok (.invokevirtual 271, 3) := by decide +kernel
theorem dX6_sweep_106 : decode cX6_sweep 106 = .ok (.invokevirtual 261, 3) := by decide +kernel
theorem dX6_sweep_109 : decode cX6_sweep 109 = .ok (.ifCond .eq 7, 3) := by decide +kernel
theorem dX6_sweep_112 : decode cX6_sweep 112 = .ok (.iconst 1, 1) := by decide +kernel
theorem dX6_sweep_113 : decode cX6_sweep 113 = .ok (.goto 4, 3) := by decide +kernel
theorem dX6_sweep_116 : decode cX6_sweep 116 = .ok (.iconst 0, 1) := by decide +kernel
theorem dX6_sweep_117 : decode cX6_sweep 117 = .ok (.istore 4, 2) := by decide +kernel
theorem dX6_sweep_119 : decode cX6_sweep 119 = .ok (.iload 4, 2) := by decide +kernel
theorem dX6_sweep_121 : decode cX6_sweep 121 = .ok (.ifCond .eq 18, 3) := by decide +kernel
theorem dX6_sweep_124 : decode cX6_sweep 124 = .ok (.aload_n 0, 1) := by decide +kernel
theorem dX6_sweep_125 : decode cX6_sweep 125 = .ok (.iload 7, 2) := by decide +kernel
theorem dX6_sweep_127 : decode cX6_sweep 127 = .ok (.aload_n 0, 1) := by decide +kernel
theorem dX6_sweep_128 : decode cX6_sweep 128 = .ok (.iload 7, 2) := by decide +kernel
theorem dX6_sweep_130 : decode cX6_sweep 130 = .ok (.invokevirtual 271, 3) := by decide +kernel
theorem dX6_sweep_133 : decode cX6_sweep 133 = .ok (.invokevirtual 264, 3) := by decide +kernel
theorem dX6_sweep_136 : decode cX6_sweep 136 = .ok (.iinc 3 1, 3) := by decide +kernel
theorem dX6_sweep_139 : decode cX6_sweep 139 = .ok (.goto (-112), 3) := by decide +kernel
theorem dX6_sweep_142 : decode cX6_sweep 142 = .ok (.iload_n 3, 1) := by decide +kernel
theorem dX6_sweep_143 : decode cX6_sweep 143 = .ok (.ireturn, 1) := by decide +kernel
theorem dX6_count_0 : decode cX6_count 0 = .ok (.iload_n 1, 1) := by decide +kernel
theorem dX6_count_1 : decode cX6_count 1 = .ok (.tableswitch 74 0 3 #[31, 36, 41, 46], 31) := by decide +kernel
theorem dX6_count_32 : decode cX6_count 32 = .ok (.aload_n 0, 1) := by decide +kernel
theorem dX6_count_33 : decode cX6_count 33 = .ok (.getfield 96, 3) := by decide +kernel
theorem dX6_count_36 : decode cX6_count 36 = .ok (.ireturn, 1) := by decide +kernel
theorem dX6_count_37 : decode cX6_count 37 = .ok (.aload_n 0, 1) := by decide +kernel
theorem dX6_count_38 : decode cX6_count 38 = .ok (.getfield 120, 3) := by decide +kernel
theorem dX6_count_41 : decode cX6_count 41 = .ok (.ireturn, 1) := by decide +kernel
theorem dX6_count_42 : decode cX6_count 42 = .ok (.aload_n 0, 1) := by decide +kernel
theorem dX6_count_43 : decode cX6_count 43 = .ok (.getfield 258, 3) := by decide +kernel
theorem dX6_count_46 : decode cX6_count 46 = .ok (.ireturn, 1) := by decide +kernel
theorem dX6_count_47 : decode cX6_count 47 = .ok (.aload_n 0, 1) := by decide +kernel
theorem dX6_count_48 : decode cX6_count 48 = .ok (.getfield 7, 3) := by decide +kernel
theorem dX6_count_51 : decode cX6_count 51 = .ok (.iconst 0, 1) := by decide +kernel
theorem dX6_count_52 : decode cX6_count 52 = .ok (.iaload, 1) := by decide +kernel
theorem dX6_count_53 : decode cX6_count 53 = .ok (.aload_n 0, 1) := by decide +kernel
theorem dX6_count_54 : decode cX6_count 54 = .ok (.getfield 7, 3) := by decide +kernel
theorem dX6_count_57 : decode cX6_count 57 = .ok (.iconst 1, 1) := by decide +kernel
theorem dX6_count_58 : decode cX6_count 58 = .ok (.iaload, 1) := by decide +kernel
theorem dX6_count_59 : decode cX6_count 59 = .ok (.iadd, 1) := by decide +kernel
theorem dX6_count_60 : decode cX6_count 60 = .ok (.aload_n 0, 1) := by decide +kernel
theorem dX6_count_61 : decode cX6_count 61 = .ok (.getfield 7, 3) := by decide +kernel
theorem dX6_count_64 : decode cX6_count 64 = .ok (.iconst 2, 1) := by decide +kernel
theorem dX6_count_65 : decode cX6_count 65 = .ok (.iaload, 1) := by decide +kernel
theorem dX6_count_66 : decode cX6_count 66 = .ok (.iadd, 1) := by decide +kernel
theorem dX6_count_67 : decode cX6_count 67 = .ok (.aload_n 0, 1) := by decide +kernel
theorem dX6_count_68 : decode cX6_count 68 = .ok (.getfield 7, 3) := by decide +kernel
theorem dX6_count_71 : decode cX6_count 71 = .ok (.iconst 3, 1) := by decide +kernel
theorem dX6_count_72 : decode cX6_count 72 = .ok (.iaload, 1) := by decide +kernel
theorem dX6_count_73 : decode cX6_count 73 = .ok (.iadd, 1) := by decide +kernel
theorem dX6_count_74 : decode cX6_count 74 = .ok (.ireturn, 1) := by decide +kernel
theorem dX6_count_75 : decode cX6_count 75 = .ok (.iconst (-1), 1) := by decide +kernel
theorem dX6_count_76 : decode cX6_count 76 = .ok (.ireturn, 1) := by decide +kernel
