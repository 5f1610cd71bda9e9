theorem dX2_init_0 : decode cX2_init 0 = .ok (.aload_n 0, 1) := by decide +kernel
theorem dX2_init_1 : decode cX2_init 1 = .ok (.invokespecial 1, 3) := by decide +kernel
theorem dX2_init_4 : decode cX2_init 4 = .ok (.aload_n 0, 1) := by decide +kernel
theorem dX2_init_5 : decode cX2_init 5 = .ok (.aload_n 1, 1) := by decide +kernel
theorem dX2_init_6 : decode cX2_init 6 = .ok (.putfield 7, 3) := by decide +kernel
theorem dX2_init_9 : decode cX2_init 9 = .ok (.aload_n 0, 1) := by decide +kernel
theorem dX2_init_10 : decode cX2_init 10 = .ok (.aload_n 2, 1) := by decide +kernel
theorem dX2_init_11 : decode cX2_init 11 = .ok (.putfield 13, 3) := by decide +kernel
theorem dX2_init_14 : decode cX2_init 14 = .ok (.return_, 1) := by decide +kernel
theorem dX2_has_0 : decode cX2_has 0 = .ok (.iload_n 1, 1) := by decide +kernel
theorem dX2_has_1 : decode cX2_has 1 = .ok (.ifCond .lt 13, 3) := by decide +kernel
theorem dX2_has_4 : decode cX2_has 4 = .ok (.iload_n 1, 1) := by decide +kernel
theorem dX2_has_5 : decode cX2_has 5 = .ok (.bipush 18, 2) := by decide +kernel
theorem dX2_has_7 : decode cX2_has 7 = .ok (.if_icmp .ge 7, 3) := by decide +kernel
theorem dX2_has_10 : decode cX2_has 10 = .ok (.iconst 1, 1) := by decide +kernel
theorem dX2_has_11 : decode cX2_has 11 = .ok (.goto 4, 3) := by decide +kernel
theorem dX2_has_14 : decode cX2_has 14 = .ok (.iconst 0, 1) := by decide +kernel
theorem dX2_has_15 : decode cX2_has 15 = .ok (.ireturn, 1) := by decide +kernel
theorem dX2_suits_0 : decode cX2_suits 0 = .ok (.aload_n 0, 1) := by decide +kernel
theorem dX2_suits_1 : decode cX2_suits 1 = .ok (.getfield 13, 3) := by decide +kernel
theorem dX2_suits_4 : decode cX2_suits 4 = .ok (.getfield 17, 3) := by decide +kernel
theorem dX2_suits_7 : decode cX2_suits 7 = .ok (.iload_n 1, 1) := by decide +kernel
theorem dX2_suits_8 : decode cX2_suits 8 = .ok (.iaload, 1) := by decide +kernel
theorem dX2_suits_9 : decode cX2_suits 9 = .ok (.getstatic 23, 3) := by decide +kernel
theorem dX2_suits_12 : decode cX2_suits 12 = .ok (.iload_n 2, 1) := by decide +kernel
theorem dX2_suits_13 : decode cX2_suits 13 = .ok (.iaload, 1) := by decide +kernel
theorem dX2_suits_14 : decode cX2_suits 14 = .ok (.if_icmp .eq 5, 3) := by decide +kernel
theorem dX2_suits_17 : decode cX2_suits 17 = .ok (.iconst 0, 1) := by decide +kernel
theorem dX2_suits_18 : decode cX2_suits 18 = .ok (.ireturn, 1) := by decide +kernel
theorem dX2_suits_19 : decode cX2_suits 19 = .ok (.aload_n 0, 1) := by decide +kernel
theorem dX2_suits_20 : decode cX2_suits 20 = .ok (.getfield 13, 3) := by decide +kernel
theorem dX2_suits_23 : decode cX2_suits 23 = .ok (.getfield 26, 3) := by decide +kernel
theorem dX2_suits_26 : decode cX2_suits 26 = .ok (.iload_n 1, 1) := by decide +kernel
theorem dX2_suits_27 : decode cX2_suits 27 = .ok (.iaload, 1) := by decide +kernel
theorem dX2_suits_28 : decode cX2_suits 28 = .ok (.istore_n 3, 1) := by decide +kernel
theorem dX2_suits_29 : decode cX2_suits 29 = .ok (.aload_n 0, 1) := by decide +kernel
theorem dX2_suits_30 : decode cX2_suits 30 = .ok (.getfield 13, 3) := by decide +kernel
theorem dX2_suits_33 : decode cX2_suits 33 = .ok (.getfield 17, 3) := by decide +kernel
theorem dX2_suits_36 : decode cX2_suits 36 = .ok (.iload_n 3, 1) := by decide +kernel
theorem dX2_suits_37 : decode cX2_suits 37 = .ok (.iaload, 1) := by decide +kernel
theorem dX2_suits_38 : decode cX2_suits 38 = .ok (.getstatic 29, 3) := by decide +kernel
theorem dX2_suits_41 : decode cX2_suits 41 = .ok (.iload_n 2, 1) := by decide +kernel
theorem dX2_suits_42 : decode cX2_suits 42 = .ok (.iaload, 1) := by decide +kernel
theorem dX2_suits_43 : decode cX2_suits 43 = .ok (.if_icmp .eq 5, 3) := by decide +kernel
theorem dX2_suits_46 : decode cX2_suits 46 = .ok (.iconst 0, 1) := by decide +kernel
theorem dX2_suits_47 : decode cX2_suits 47 = .ok (.ireturn, 1) := by decide +kernel
theorem dX2_suits_48 : decode cX2_suits 48 = .ok (.getstatic 23, 3) := by decide +kernel
theorem dX2_suits_51 : decode cX2_suits 51 = .ok (.iload_n 2, 1) := by decide +kernel
theorem dX2_suits_52 : decode cX2_suits 52 = .ok (.iaload, 1) := by decide +kernel
theorem dX2_suits_53 : decode cX2_suits 53 = .ok (.iconst 1, 1) := by decide +kernel
theorem dX2_suits_54 : decode cX2_suits 54 = .ok (.if_icmp .ne 19, 3) := by decide +kernel
theorem dX2_suits_57 : decode cX2_suits 57 = .ok (.aload_n 0, 1) := by decide +kernel
theorem dX2_suits_58 : decode cX2_suits 58 = .ok (.iload_n 2, 1) := by decide +kernel
theorem dX2_suits_59 : decode cX2_suits 59 = .ok (.aload_n 0, 1) := by decide +kernel
theorem dX2_suits_60 : decode cX2_suits 60 = .ok (.getfield 13, 3) := by decide +kernel
theorem dX2_suits_63 : decode cX2_suits 63 = .ok (.getfield 32, 3) := by decide +kernel
theorem dX2_suits_66 : decode cX2_suits 66 = .ok (.iload_n 1, 1) := by decide +kernel
theorem dX2_suits_67 : decode cX2_suits 67 = .ok (.iaload, 1) := by decide +kernel
theorem dX2_suits_68 : decode cX2_suits 68 = .ok (.iload_n 3, 1) := by decide +kernel
theorem dX2_suits_69 : decode cX2_suits 69 = .ok (.invokevirtual 35, 3) := by decide +kernel
theorem dX2_suits_72 : decode cX2_suits 72 = .ok (.ireturn, 1) := by decide +kernel
theorem dX2_suits_73 : decode cX2_suits 73 = .ok (.aload_n 0, 1) := by decide +kernel
theorem dX2_suits_74 : decode cX2_suits 74 = .ok (.iload_n 2, 1) := by decide +kernel
theorem dX2_suits_75 : decode cX2_suits 75 = .ok (.iload_n 1, 1) := by decide +kernel
theorem dX2_suits_76 : decode cX2_suits 76 = .ok (.iload_n 3, 1) := by decide +kernel
theorem dX2_suits_77 : decode cX2_suits 77 = .ok (.invokevirtual 39, 3) := by decide +kernel
theorem dX2_suits_80 : decode cX2_suits 80 = .ok (.ireturn, 1) := by decide +kernel
theorem dX2_suitsFilter_0 : decode cX2_suitsFilter 0 = .ok (.aload_n 0, 1) := by decide +kernel
theorem dX2_suitsFilter_1 : decode cX2_suitsFilter 1 = .ok (.getfield 7, 3) := by decide +kernel
theorem dX2_suitsFilter_4 : decode cX2_suitsFilter 4 = .ok (.getfield 42, 3) := by decide +kernel
theorem dX2_suitsFilter_7 : decode cX2_suitsFilter 7 = .ok (.iload_n 2, 1) := by decide +kernel
theorem dX2_suitsFilter_8 : decode cX2_suitsFilter 8 = .ok (.iaload, 1) := by decide +kernel
theorem dX2_suitsFilter_9 : decode cX2_suitsFilter 9 = .ok (.istore 4, 2) := by decide +kernel
theorem dX2_suitsFilter_11 : decode cX2_suitsFilter 11 = .ok (.aload_n 0, 1) := by decide +kernel
theorem dX2_suitsFilter_12 : decode cX2_suitsFilter 12 = .ok (.getfield 7, 3) := by decide +kernel
theorem dX2_suitsFilter_15 : decode cX2_suitsFilter 15 = .ok (.getfield 47, 3) := by decide +kernel
theorem dX2_suitsFilter_18 : decode cX2_suitsFilter 18 = .ok (.iload_n 2, 1) := by decide +kernel
theorem dX2_suitsFilter_19 : decode cX2_suitsFilter 19 = .ok (.baload, 1) := by decide +kernel
theorem dX2_suitsFilter_20 : decode cX2_suitsFilter 20 = .ok (.ifCond .ne 7, 3) := by decide +kernel
theorem dX2_suitsFilter_23 : decode cX2_suitsFilter 23 = .ok (.iconst 1, 1) := by decide +kernel
theorem dX2_suitsFilter_24 : decode cX2_suitsFilter 24 = .ok (.goto 4, 3) := by decide +kernel
theorem dX2_suitsFilter_27 : decode cX2_suitsFilter 27 = .ok (.iconst 0, 1) := by decide +kernel
theorem dX2_suitsFilter_28 : decode cX2_suitsFilter 28 = .ok (.istore 5, 2) := by decide +kernel
theorem dX2_suitsFilter_30 : decode cX2_suitsFilter 30 = .ok (.aload_n 0, 1) := by decide +kernel
theorem dX2_suitsFilter_31 : decode cX2_suitsFilter 31 = .ok (.getfield 13, 3) := by decide +kernel
theorem dX2_suitsFilter_34 : decode cX2_suitsFilter 34 = .ok (.getfield 51, 3) := by decide +kernel
theorem dX2_suitsFilter_37 : decode cX2_suitsFilter 37 = .ok (.iload_n 3, 1) := by decide +kernel
theorem dX2_suitsFilter_38 : decode cX2_suitsFilter 38 = .ok (.iaload, 1) := by decide +kernel
theorem dX2_suitsFilter_39 : decode cX2_suitsFilter 39 = .ok (.istore 6, 2) := by decide +kernel
theorem dX2_suitsFilter_41 : decode cX2_suitsFilter 41 = .ok (.aload_n 0, 1) := by decide +kernel
theorem dX2_suitsFilter_42 : decode cX2_suitsFilter 42 = .ok (.getfield 13, 3) := by decide +kernel
theorem dX2_suitsFilter_45 : decode cX2_suitsFilter 45 = .ok (.getfield 32, 3) := by decide +kernel
theorem dX2_suitsFilter_48 : decode cX2_suitsFilter 48 = .ok (.iload_n 3, 1) := by decide +kernel
theorem dX2_suitsFilter_49 : decode cX2_suitsFilter 49 = .ok (.iaload, 1) := by decide +kernel
theorem dX2_suitsFilter_50 : decode cX2_suitsFilter 50 = .ok (.istore 7, 2) := by decide +kernel
theorem dX2_suitsFilter_52 : decode cX2_suitsFilter 52 = .ok (.iload_n 1, 1) := by decide +kernel
theorem dX2_suitsFilter_53 : decode cX2_suitsFilter 53 = .ok (.tableswitch 202 0 7 #[47, 76, 84, 103, 124, 155, 202, 178], 47) := by decide +kernel
theorem dX2_suitsFilter_100 : decode cX2_suitsFilter 100 = .ok (.iload 6, 2) := by decide +kernel
theorem dX2_suitsFilter_102 : decode cX2_suitsFilter 102 = .ok (.iload 4, 2) := by decide +kernel
theorem dX2_suitsFilter_104 : decode cX2_suitsFilter 104 = .ok (.invokestatic 54, 3) := by decide +kernel
theorem dX2_suitsFilter_107 : decode cX2_suitsFilter 107 = .ok (.ifCond .ne 20, 3) := by decide +kernel
theorem dX2_suitsFilter_110 : decode cX2_suitsFilter 110 = .ok (.aload_n 0, 1) := by decide +kernel
theorem dX2_suitsFilter_111 : decode cX2_suitsFilter 111 = .ok (.getfield 7, 3) := by decide +kernel
theorem dX2_suitsFilter_114 : decode cX2_suitsFilter 114 = .ok (.getfield 47, 3) := by decide +kernel
theorem dX2_suitsFilter_117 : decode cX2_suitsFilter 117 = .ok (.iload 7, 2) := by decide +kernel
theorem dX2_suitsFilter_119 : decode cX2_suitsFilter 119 = .ok (.baload, 1) := by decide +kernel
theorem dX2_suitsFilter_120 : decode cX2_suitsFilter 120 = .ok (.ifCond .ne 7, 3) := by decide +kernel
theorem dX2_suitsFilter_123 : decode cX2_suitsFilter 123 = .ok (.iconst 1, 1) := by decide +kernel
theorem dX2_suitsFilter_124 : decode cX2_suitsFilter 124 = .ok (.goto 4, 3) := by decide +kernel
theorem dX2_suitsFilter_127 : decode cX2_suitsFilter 127 = .ok (.iconst 0, 1) := by decide +kernel
theorem dX2_suitsFilter_128 : decode cX2_suitsFilter 128 = .ok (.ireturn, 1) := by decide +kernel
theorem dX2_suitsFilter_129 : decode cX2_suitsFilter 129 = .ok (.iload 4, 2) := by decide +kernel
theorem dX2_suitsFilter_131 : decode cX2_suitsFilter 131 = .ok (.iload 7, 2) := by decide +kernel
theorem dX2_suitsFilter_133 : decode cX2_suitsFilter 133 = .ok (.invokestatic 60, 3) := by decide +kernel
theorem dX2_suitsFilter_136 : decode cX2_suitsFilter 136 = .ok (.ireturn, 1) := by decide +kernel
theorem dX2_suitsFilter_137 : decode cX2_suitsFilter 137 = .ok (.iload 4, 2) := by decide +kernel
theorem dX2_suitsFilter_139 : decode cX2_suitsFilter 139 = .ok (.iload 7, 2) := by decide +kernel
theorem dX2_suitsFilter_141 : decode cX2_suitsFilter 141 = .ok (.iand, 1) := by decide +kernel
theorem dX2_suitsFilter_142 : decode cX2_suitsFilter 142 = .ok (.ifCond .ne 12, 3) := by decide +kernel
theorem dX2_suitsFilter_145 : decode cX2_suitsFilter 145 = .ok (.iload 5, 2) := by decide +kernel
theorem dX2_suitsFilter_147 : decode cX2_suitsFilter 147 = .ok (.ifCond .eq 7, 3) := by decide +kernel
theorem dX2_suitsFilter_150 : decode cX2_suitsFilter 150 = .ok (.iconst 1, 1) := by decide +kernel
theorem dX2_suitsFilter_151 : decode cX2_suitsFilter 151 = .ok (.goto 4, 3) := by decide +kernel
theorem dX2_suitsFilter_154 : decode cX2_suitsFilter 154 = .ok (.iconst 0, 1) := by decide +kernel
theorem dX2_suitsFilter_155 : decode cX2_suitsFilter 155 = .ok (.ireturn, 1) := by decide +kernel
theorem dX2_suitsFilter_156 : decode cX2_suitsFilter 156 = .ok (.iload 4, 2) := by decide +kernel
theorem dX2_suitsFilter_158 : decode cX2_suitsFilter 158 = .ok (.iload 7, 2) := by decide +kernel
theorem dX2_suitsFilter_160 : decode cX2_suitsFilter 160 = .ok (.invokestatic 60, 3) := by decide +kernel
theorem dX2_suitsFilter_163 : decode cX2_suitsFilter 163 = .ok (.ifCond .eq 12, 3) := by decide +kernel
theorem dX2_suitsFilter_166 : decode cX2_suitsFilter 166 = .ok (.iload 5, 2) := by decide +kernel
theorem dX2_suitsFilter_168 : decode cX2_suitsFilter 168 = .ok (.ifCond .eq 7, 3) := by decide +kernel
theorem dX2_suitsFilter_171 : decode cX2_suitsFilter 171 = .ok (.iconst 1, 1) := by decide +kernel
theorem dX2_suitsFilter_172 : decode cX2_suitsFilter 172 = .ok (.goto 4, 3) := by decide +kernel
theorem dX2_suitsFilter_175 : decode cX2_suitsFilter 175 = .ok (.iconst 0, 1) := by decide +kernel
theorem dX2_suitsFilter_176 : decode cX2_suitsFilter 176 = .ok (.ireturn, 1) := by decide +kernel
theorem dX2_suitsFilter_177 : decode cX2_suitsFilter 177 = .ok (.iload 5, 2) := by decide +kernel
theorem dX2_suitsFilter_179 : decode cX2_suitsFilter 179 = .ok (.ifCond .ne 23, 3) := by decide +kernel
theorem dX2_suitsFilter_182 : decode cX2_suitsFilter 182 = .ok (.aload_n 0, 1) := by decide +kernel
theorem dX2_suitsFilter_183 : decode cX2_suitsFilter 183 = .ok (.getfield 13, 3) := by decide +kernel
theorem dX2_suitsFilter_186 : decode cX2_suitsFilter 186 = .ok (.getfield 63, 3) := by decide +kernel
theorem dX2_suitsFilter_189 : decode cX2_suitsFilter 189 = .ok (.aload_n 0, 1) := by decide +kernel
theorem dX2_suitsFilter_190 : decode cX2_suitsFilter 190 = .ok (.getfield 13, 3) := by decide +kernel
theorem dX2_suitsFilter_193 : decode cX2_suitsFilter 193 = .ok (.getfield 64, 3) := by decide +kernel
theorem dX2_suitsFilter_196 : decode cX2_suitsFilter 196 = .ok (.iload_n 3, 1) := by decide +kernel
theorem dX2_suitsFilter_197 : decode cX2_suitsFilter 197 = .ok (.iaload, 1) := by decide +kernel
theorem dX2_suitsFilter_198 : decode cX2_suitsFilter 198 = .ok (.baload, 1) := by decide +kernel
theorem dX2_suitsFilter_199 : decode cX2_suitsFilter 199 = .ok (.ifCond .ne 7, 3) := by decide +kernel
theorem dX2_suitsFilter_202 : decode cX2_suitsFilter 202 = .ok (.iconst 1, 1) := by decide +kernel
theorem dX2_suitsFilter_203 : decode cX2_suitsFilter 203 = .ok (.goto 4, 3) := by decide +kernel
theorem dX2_suitsFilter_206 : decode cX2_suitsFilter 206 = .ok (.iconst 0, 1) := by decide +kernel
theorem dX2_suitsFilter_207 : decode cX2_suitsFilter 207 = .ok (.ireturn, 1) := by decide +kernel
theorem dX2_suitsFilter_208 : decode cX2_suitsFilter 208 = .ok (.iload 4, 2) := by decide +kernel
theorem dX2_suitsFilter_210 : decode cX2_suitsFilter 210 = .ok (.iconst 1, 1) := by decide +kernel
theorem dX2_suitsFilter_211 : decode cX2_suitsFilter 211 = .ok (.iload 6, 2) := by decide +kernel
theorem dX2_suitsFilter_213 : decode cX2_suitsFilter 213 = .ok (.ishl, 1) := by decide +kernel
theorem dX2_suitsFilter_214 : decode cX2_suitsFilter 214 = .ok (.invokestatic 60, 3) := by decide +kernel
theorem dX2_suitsFilter_217 : decode cX2_suitsFilter 217 = .ok (.ifCond .eq 12, 3) := by decide +kernel
theorem dX2_suitsFilter_220 : decode cX2_suitsFilter 220 = .ok (.iload 5, 2) := by decide +kernel
theorem dX2_suitsFilter_222 : decode cX2_suitsFilter 222 = .ok (.ifCond .eq 7, 3) := by decide +kernel
theorem dX2_suitsFilter_225 : decode cX2_suitsFilter 225 = .ok (.iconst 1, 1) := by decide +kernel
theorem dX2_suitsFilter_226 : decode cX2_suitsFilter 226 = .ok (.goto 4, 3) := by decide +kernel
theorem dX2_suitsFilter_229 : decode cX2_suitsFilter 229 = .ok (.iconst 0, 1) := by decide +kernel
theorem dX2_suitsFilter_230 : decode cX2_suitsFilter 230 = .ok (.ireturn, 1) := by decide +kernel
theorem dX2_suitsFilter_231 : decode cX2_suitsFilter 231 = .ok (.iload 5, 2) := by decide +kernel
theorem dX2_suitsFilter_233 : decode cX2_suitsFilter 233 = .ok (.ifCond .ne 16, 3) := by decide +kernel
theorem dX2_suitsFilter_236 : decode cX2_suitsFilter 236 = .ok (.aload_n 0, 1) := by decide +kernel
theorem dX2_suitsFilter_237 : decode cX2_suitsFilter 237 = .ok (.getfield 7, 3) := by decide +kernel
theorem dX2_suitsFilter_240 : decode cX2_suitsFilter 240 = .ok (.getfield 47, 3) := by decide +kernel
theorem dX2_suitsFilter_243 : decode cX2_suitsFilter 243 = .ok (.iload 7, 2) := by decide +kernel
theorem dX2_suitsFilter_245 : decode cX2_suitsFilter 245 = .ok (.baload, 1) := by decide +kernel
theorem dX2_suitsFilter_246 : decode cX2_suitsFilter 246 = .ok (.ifCond .ne 7, 3) := by decide +kernel
theorem dX2_suitsFilter_249 : decode cX2_suitsFilter 249 = .ok (.iconst 1, 1) := by decide +kernel
theorem dX2_suitsFilter_250 : decode cX2_suitsFilter 250 = .ok (.goto 4, 3) := by decide +kernel
theorem dX2_suitsFilter_253 : decode cX2_suitsFilter 253 = .ok (.iconst 0, 1) := by decide +kernel
theorem dX2_suitsFilter_254 : decode cX2_suitsFilter 254 = .ok (.ireturn, 1) := by decide +kernel
theorem dX2_suitsFilter_255 : decode cX2_suitsFilter 255 = .ok (.iconst 1, 1) := by decide +kernel
theorem dX2_suitsFilter_256 : decode cX2_suitsFilter 256 = .ok (.ireturn, 1) := by decide +kernel
theorem dX2_suitsOther_0 : decode cX2_suitsOther 0 = .ok (.aload_n 0, 1) := by decide +kernel
theorem dX2_suitsOther_1 : decode cX2_suitsOther 1 = .ok (.getfield 13, 3) := by decide +kernel
theorem dX2_suitsOther_4 : decode cX2_suitsOther 4 = .ok (.getfield 51, 3) := by decide +kernel
theorem dX2_suitsOther_7 : decode cX2_suitsOther 7 = .ok (.iload_n 2, 1) := by decide +kernel
theorem dX2_suitsOther_8 : decode cX2_suitsOther 8 = .ok (.iaload, 1) := by decide +kernel
theorem dX2_suitsOther_9 : decode cX2_suitsOther 9 = .ok (.istore 4, 2) := by decide +kernel
theorem dX2_suitsOther_11 : decode cX2_suitsOther 11 = .ok (.aload_n 0, 1) := by decide +kernel
theorem dX2_suitsOther_12 : decode cX2_suitsOther 12 = .ok (.getfield 13, 3) := by decide +kernel
theorem dX2_suitsOther_15 : decode cX2_suitsOther 15 = .ok (.getfield 32, 3) := by decide +kernel
theorem dX2_suitsOther_18 : decode cX2_suitsOther 18 = .ok (.iload_n 2, 1) := by decide +kernel
theorem dX2_suitsOther_19 : decode cX2_suitsOther 19 = .ok (.iaload, 1) := by decide +kernel
theorem dX2_suitsOther_20 : decode cX2_suitsOther 20 = .ok (.istore 5, 2) := by decide +kernel
theorem dX2_suitsOther_22 : decode cX2_suitsOther 22 = .ok (.aload_n 0, 1) := by decide +kernel
theorem dX2_suitsOther_23 : decode cX2_suitsOther 23 = .ok (.getfield 13, 3) := by decide +kernel
theorem dX2_suitsOther_26 : decode cX2_suitsOther 26 = .ok (.getfield 51, 3) := by decide +kernel
theorem dX2_suitsOther_29 : decode cX2_suitsOther 29 = .ok (.iload_n 3, 1) := by decide +kernel
theorem dX2_suitsOther_30 : decode cX2_suitsOther 30 = .ok (.iaload, 1) := by decide +kernel
theorem dX2_suitsOther_31 : decode cX2_suitsOther 31 = .ok (.istore 6, 2) := by decide +kernel
theorem dX2_suitsOther_33 : decode cX2_suitsOther 33 = .ok (.aload_n 0, 1) := by decide +kernel
theorem dX2_suitsOther_34 : decode cX2_suitsOther 34 = .ok (.getfield 13, 3) := by decide +kernel
theorem dX2_suitsOther_37 : decode cX2_suitsOther 37 = .ok (.getfield 32, 3) := by decide +kernel
theorem dX2_suitsOther_40 : decode cX2_suitsOther 40 = .ok (.iload_n 3, 1) := by decide +kernel
theorem dX2_suitsOther_41 : decode cX2_suitsOther 41 = .ok (.iaload, 1) := by decide +kernel
theorem dX2_suitsOther_42 : decode cX2_suitsOther 42 = .ok (.istore 7, 2) := by decide +kernel
theorem dX2_suitsOther_44 : decode cX2_suitsOther 44 = .ok (.iload_n 1, 1) := by decide +kernel
theorem dX2_suitsOther_45 : decode cX2_suitsOther 45 = .ok (.tableswitch 213 8 17 #[55, 213, 99, 213, 128, 168, 213, 213, 128, 194], 55) := by decide +kernel
theorem dX2_suitsOther_100 : decode cX2_suitsOther 100 = .ok (.iload 6, 2) := by decide +kernel
theorem dX2_suitsOther_102 : decode cX2_suitsOther 102 = .ok (.iload 4, 2) := by decide +kernel
theorem dX2_suitsOther_104 : decode cX2_suitsOther 104 = .ok (.if_icmp .ne 38, 3) := by decide +kernel
theorem dX2_suitsOther_107 : decode cX2_suitsOther 107 = .ok (.iload 4, 2) := by decide +kernel
theorem dX2_suitsOther_109 : decode cX2_suitsOther 109 = .ok (.aload_n 0, 1) := by decide +kernel
theorem dX2_suitsOther_110 : decode cX2_suitsOther 110 = .ok (.getfield 7, 3) := by decide +kernel
theorem dX2_suitsOther_113 : decode cX2_suitsOther 113 = .ok (.getfield 42, 3) := by decide +kernel
theorem dX2_suitsOther_116 : decode cX2_suitsOther 116 = .ok (.iload 5, 2) := by decide +kernel
theorem dX2_suitsOther_118 : decode cX2_suitsOther 118 = .ok (.iaload, 1) := by decide +kernel
theorem dX2_suitsOther_119 : decode cX2_suitsOther 119 = .ok (.invokestatic 54, 3) := by decide +kernel
theorem dX2_suitsOther_122 : decode cX2_suitsOther 122 = .ok (.ifCond .ne 20, 3) := by decide +kernel
theorem dX2_suitsOther_125 : decode cX2_suitsOther 125 = .ok (.aload_n 0, 1) := by decide +kernel
theorem dX2_suitsOther_126 : decode cX2_suitsOther 126 = .ok (.getfield 7, 3) := by decide +kernel
theorem dX2_suitsOther_129 : decode cX2_suitsOther 129 = .ok (.getfield 47, 3) := by decide +kernel
theorem dX2_suitsOther_132 : decode cX2_suitsOther 132 = .ok (.iload 7, 2) := by decide +kernel
theorem dX2_suitsOther_134 : decode cX2_suitsOther 134 = .ok (.baload, 1) := by decide +kernel
theorem dX2_suitsOther_135 : decode cX2_suitsOther 135 = .ok (.ifCond .ne 7, 3) := by decide +kernel
theorem dX2_suitsOther_138 : decode cX2_suitsOther 138 = .ok (.iconst 1, 1) := by decide +kernel
theorem dX2_suitsOther_139 : decode cX2_suitsOther 139 = .ok (.goto 4, 3) := by decide +kernel
theorem dX2_suitsOther_142 : decode cX2_suitsOther 142 = .ok (.iconst 0, 1) := by decide +kernel
theorem dX2_suitsOther_143 : decode cX2_suitsOther 143 = .ok (.ireturn, 1) := by decide +kernel
theorem dX2_suitsOther_144 : decode cX2_suitsOther 144 = .ok (.iload 6, 2) := by decide +kernel
theorem dX2_suitsOther_146 : decode cX2_suitsOther 146 = .ok (.iload 5, 2) := by decide +kernel
theorem dX2_suitsOther_148 : decode cX2_suitsOther 148 = .ok (.invokestatic 54, 3) := by decide +kernel
theorem dX2_suitsOther_151 : decode cX2_suitsOther 151 = .ok (.ifCond .ne 20, 3) := by decide +kernel
theorem dX2_suitsOther_154 : decode cX2_suitsOther 154 = .ok (.aload_n 0, 1) := by decide +kernel
theorem dX2_suitsOther_155 : decode cX2_suitsOther 155 = .ok (.getfield 7, 3) := by decide +kernel
theorem dX2_suitsOther_158 : decode cX2_suitsOther 158 = .ok (.getfield 47, 3) := by decide +kernel
theorem dX2_suitsOther_161 : decode cX2_suitsOther 161 = .ok (.iload 7, 2) := by decide +kernel
theorem dX2_suitsOther_163 : decode cX2_suitsOther 163 = .ok (.baload, 1) := by decide +kernel
theorem dX2_suitsOther_164 : decode cX2_suitsOther 164 = .ok (.ifCond .ne 7, 3) := by decide +kernel
theorem dX2_suitsOther_167 : decode cX2_suitsOther 167 = .ok (.iconst 1, 1) := by decide +kernel
theorem dX2_suitsOther_168 : decode cX2_suitsOther 168 = .ok (.goto 4, 3) := by decide +kernel
theorem dX2_suitsOther_171 : decode cX2_suitsOther 171 = .ok (.iconst 0, 1) := by decide +kernel
theorem dX2_suitsOther_172 : decode cX2_suitsOther 172 = .ok (.ireturn, 1) := by decide +kernel
theorem dX2_suitsOther_173 : decode cX2_suitsOther 173 = .ok (.aload_n 0, 1) := by decide +kernel
theorem dX2_suitsOther_174 : decode cX2_suitsOther 174 = .ok (.iload_n 2, 1) := by decide +kernel
theorem dX2_suitsOther_175 : decode cX2_suitsOther 175 = .ok (.aload_n 0, 1) := by decide +kernel
theorem dX2_suitsOther_176 : decode cX2_suitsOther 176 = .ok (.getfield 13, 3) := by decide +kernel
theorem dX2_suitsOther_179 : decode cX2_suitsOther 179 = .ok (.getfield 26, 3) := by decide +kernel
theorem dX2_suitsOther_182 : decode cX2_suitsOther 182 = .ok (.iload_n 3, 1) := by decide +kernel
theorem dX2_suitsOther_183 : decode cX2_suitsOther 183 = .ok (.iaload, 1) := by decide +kernel
theorem dX2_suitsOther_184 : decode cX2_suitsOther 184 = .ok (.invokevirtual 67, 3) := by decide +kernel
theorem dX2_suitsOther_187 : decode cX2_suitsOther 187 = .ok (.ifCond .eq 20, 3) := by decide +kernel
theorem dX2_suitsOther_190 : decode cX2_suitsOther 190 = .ok (.aload_n 0, 1) := by decide +kernel
theorem dX2_suitsOther_191 : decode cX2_suitsOther 191 = .ok (.iload_n 2, 1) := by decide +kernel
theorem dX2_suitsOther_192 : decode cX2_suitsOther 192 = .ok (.aload_n 0, 1) := by decide +kernel
theorem dX2_suitsOther_193 : decode cX2_suitsOther 193 = .ok (.getfield 13, 3) := by decide +kernel
theorem dX2_suitsOther_196 : decode cX2_suitsOther 196 = .ok (.getfield 64, 3) := by decide +kernel
theorem dX2_suitsOther_199 : decode cX2_suitsOther 199 = .ok (.iload_n 3, 1) := by decide +kernel
theorem dX2_suitsOther_200 : decode cX2_suitsOther 200 = .ok (.iaload, 1) := by decide +kernel
theorem dX2_suitsOther_201 : decode cX2_suitsOther 201 = .ok (.invokevirtual 67, 3) := by decide +kernel
theorem dX2_suitsOther_204 : decode cX2_suitsOther 204 = .ok (.ifCond .ne 7, 3) := by decide +kernel
theorem dX2_suitsOther_207 : decode cX2_suitsOther 207 = .ok (.iconst 1, 1) := by decide +kernel
theorem dX2_suitsOther_208 : decode cX2_suitsOther 208 = .ok (.goto 4, 3) := by decide +kernel
theorem dX2_suitsOther_211 : decode cX2_suitsOther 211 = .ok (.iconst 0, 1) := by decide +kernel
theorem dX2_suitsOther_212 : decode cX2_suitsOther 212 = .ok (.ireturn, 1) := by decide +kernel
theorem dX2_suitsOther_213 : decode cX2_suitsOther 213 = .ok (.iload 4, 2) := by decide +kernel
theorem dX2_suitsOther_215 : decode cX2_suitsOther 215 = .ok (.iload 7, 2) := by decide +kernel
theorem dX2_suitsOther_217 : decode cX2_suitsOther 217 = .ok (.invokestatic 54, 3) := by decide +kernel
theorem dX2_suitsOther_220 : decode cX2_suitsOther 220 = .ok (.ifCond .eq 17, 3) := by decide +kernel
theorem dX2_suitsOther_223 : decode cX2_suitsOther 223 = .ok (.iload 5, 2) := by decide +kernel
theorem dX2_suitsOther_225 : decode cX2_suitsOther 225 = .ok (.iload 7, 2) := by decide +kernel
theorem dX2_suitsOther_227 : decode cX2_suitsOther 227 = .ok (.invokestatic 54, 3) := by decide +kernel
theorem dX2_suitsOther_230 : decode cX2_suitsOther 230 = .ok (.ifCond .eq 7, 3) := by decide +kernel
theorem dX2_suitsOther_233 : decode cX2_suitsOther 233 = .ok (.iconst 1, 1) := by decide +kernel
theorem dX2_suitsOther_234 : decode cX2_suitsOther 234 = .ok (.goto 4, 3) := by decide +kernel
theorem dX2_suitsOther_237 : decode cX2_suitsOther 237 = .ok (.iconst 0, 1) := by decide +kernel
theorem dX2_suitsOther_238 : decode cX2_suitsOther 238 = .ok (.ireturn, 1) := by decide +kernel
theorem dX2_suitsOther_239 : decode cX2_suitsOther 239 = .ok (.aload_n 0, 1) := by decide +kernel
theorem dX2_suitsOther_240 : decode cX2_suitsOther 240 = .ok (.getfield 7, 3) := by decide +kernel
theorem dX2_suitsOther_243 : decode cX2_suitsOther 243 = .ok (.getfield 47, 3) := by decide +kernel
theorem dX2_suitsOther_246 : decode cX2_suitsOther 246 = .ok (.iload 7, 2) := by decide +kernel
theorem dX2_suitsOther_248 : decode cX2_suitsOther 248 = .ok (.baload, 1) := by decide +kernel
theorem dX2_suitsOther_249 : decode cX2_suitsOther 249 = .ok (.ifCond .ne 7, 3) := by decide +kernel
theorem dX2_suitsOther_252 : decode cX2_suitsOther 252 = .ok (.iconst 1, 1) := by decide +kernel
theorem dX2_suitsOther_253 : decode cX2_suitsOther 253 = .ok (.goto 4, 3) := by decide +kernel
theorem dX2_suitsOther_256 : decode cX2_suitsOther 256 = .ok (.iconst 0, 1) := by decide +kernel
theorem dX2_suitsOther_257 : decode cX2_suitsOther 257 = .ok (.ireturn, 1) := by decide +kernel
theorem dX2_suitsOther_258 : decode cX2_suitsOther 258 = .ok (.iconst 1, 1) := by decide +kernel
theorem dX2_suitsOther_259 : decode cX2_suitsOther 259 = .ok (.ireturn, 1) := by decide +kernel
theorem dX2_isLikeJob_0 : decode cX2_isLikeJob 0 = .ok (.aload_n 0, 1) := by decide +kernel
theorem dX2_isLikeJob_1 : decode cX2_isLikeJob 1 = .ok (.getfield 13, 3) := by decide +kernel
theorem dX2_isLikeJob_4 : decode cX2_isLikeJob 4 = .ok (.getfield 17, 3) := by decide +kernel
theorem dX2_isLikeJob_7 : decode cX2_isLikeJob 7 = .ok (.iload_n 1, 1) := by decide +kernel
theorem dX2_isLikeJob_8 : decode cX2_isLikeJob 8 = .ok (.iaload, 1) := by decide +kernel
theorem dX2_isLikeJob_9 : decode cX2_isLikeJob 9 = .ok (.aload_n 0, 1) := by decide +kernel
theorem dX2_isLikeJob_10 : decode cX2_isLikeJob 10 = .ok (.getfield 13, 3) := by decide +kernel
theorem dX2_isLikeJob_13 : decode cX2_isLikeJob 13 = .ok (.getfield 17, 3) := by decide +kernel
theorem dX2_isLikeJob_16 : decode cX2_isLikeJob 16 = .ok (.iload_n 2, 1) := by decide +kernel
theorem dX2_isLikeJob_17 : decode cX2_isLikeJob 17 = .ok (.iaload, 1) := by decide +kernel
theorem dX2_isLikeJob_18 : decode cX2_isLikeJob 18 = .ok (.if_icmp .ne 49, 3) := by decide +kernel
theorem dX2_isLikeJob_21 : decode cX2_isLikeJob 21 = .ok (.aload_n 0, 1) := by decide +kernel
theorem dX2_isLikeJob_22 : decode cX2_isLikeJob 22 = .ok (.getfield 13, 3) := by decide +kernel
theorem dX2_isLikeJob_25 : decode cX2_isLikeJob 25 = .ok (.getfield 51, 3) := by decide +kernel
theorem dX2_isLikeJob_28 : decode cX2_isLikeJob 28 = .ok (.iload_n 1, 1) := by decide +kernel
theorem dX2_isLikeJob_29 : decode cX2_isLikeJob 29 = .ok (.iaload, 1) := by decide +kernel
theorem dX2_isLikeJob_30 : decode cX2_isLikeJob 30 = .ok (.aload_n 0, 1) := by decide +kernel
theorem dX2_isLikeJob_31 : decode cX2_isLikeJob 31 = .ok (.getfield 13, 3) := by decide +kernel
theorem dX2_isLikeJob_34 : decode cX2_isLikeJob 34 = .ok (.getfield 51, 3) := by decide +kernel
theorem dX2_isLikeJob_37 : decode cX2_isLikeJob 37 = .ok (.iload_n 2, 1) := by decide +kernel
theorem dX2_isLikeJob_38 : decode cX2_isLikeJob 38 = .ok (.iaload, 1) := by decide +kernel
theorem dX2_isLikeJob_39 : decode cX2_isLikeJob 39 = .ok (.if_icmp .ne 28, 3) := by decide +kernel
theorem dX2_isLikeJob_42 : decode cX2_isLikeJob 42 = .ok (.aload_n 0, 1) := by decide +kernel
theorem dX2_isLikeJob_43 : decode cX2_isLikeJob 43 = .ok (.getfield 13, 3) := by decide +kernel
theorem dX2_isLikeJob_46 : decode cX2_isLikeJob 46 = .ok (.getfield 32, 3) := by decide +kernel
theorem dX2_isLikeJob_49 : decode cX2_isLikeJob 49 = .ok (.iload_n 1, 1) := by decide +kernel
theorem dX2_isLikeJob_50 : decode cX2_isLikeJob 50 = .ok (.iaload, 1) := by decide +kernel
theorem dX2_isLikeJob_51 : decode cX2_isLikeJob 51 = .ok (.aload_n 0, 1) := by decide +kernel
theorem dX2_isLikeJob_52 : decode cX2_isLikeJob 52 = .ok (.getfield 13, 3) := by decide +kernel
theorem dX2_isLikeJob_55 : decode cX2_isLikeJob 55 = .ok (.getfield 32, 3) := by decide +kernel
theorem dX2_isLikeJob_58 : decode cX2_isLikeJob 58 = .ok (.iload_n 2, 1) := by decide +kernel
theorem dX2_isLikeJob_59 : decode cX2_isLikeJob 59 = .ok (.iaload, 1) := by decide +kernel
theorem dX2_isLikeJob_60 : decode cX2_isLikeJob 60 = .ok (.if_icmp .ne 7, 3) := by decide +kernel
theorem dX2_isLikeJob_63 : decode cX2_isLikeJob 63 = .ok (.iconst 1, 1) := by decide +kernel
theorem dX2_isLikeJob_64 : decode cX2_isLikeJob 64 = .ok (.goto 4, 3) := by decide +kernel
theorem dX2_isLikeJob_67 : decode cX2_isLikeJob 67 = .ok (.iconst 0, 1) := by decide +kernel
theorem dX2_isLikeJob_68 : decode cX2_isLikeJob 68 = .ok (.ireturn, 1) := by decide +kernel
theorem dX2_hasRoom_0 : decode cX2_hasRoom 0 = .ok (.iload_n 2, 1) := by decide +kernel
theorem dX2_hasRoom_1 : decode cX2_hasRoom 1 = .ok (.bipush 7, 2) := by decide +kernel
theorem dX2_hasRoom_3 : decode cX2_hasRoom 3 = .ok (.if_icmp .ne 39, 3) := by decide +kernel
theorem dX2_hasRoom_6 : decode cX2_hasRoom 6 = .ok (.aload_n 0, 1) := by decide +kernel
theorem dX2_hasRoom_7 : decode cX2_hasRoom 7 = .ok (.getfield 7, 3) := by decide +kernel
theorem dX2_hasRoom_10 : decode cX2_hasRoom 10 = .ok (.bipush 9, 2) := by decide +kernel
theorem dX2_hasRoom_12 : decode cX2_hasRoom 12 = .ok (.aload_n 0, 1) := by decide +kernel
theorem dX2_hasRoom_13 : decode cX2_hasRoom 13 = .ok (.getfield 13, 3) := by decide +kernel
theorem dX2_hasRoom_16 : decode cX2_hasRoom 16 = .ok (.getfield 32, 3) := by decide +kernel
theorem dX2_hasRoom_19 : decode cX2_hasRoom 19 = .ok (.aload_n 0, 1) := by decide +kernel
theorem dX2_hasRoom_20 : decode cX2_hasRoom 20 = .ok (.getfield 13, 3) := by decide +kernel
theorem dX2_hasRoom_23 : decode cX2_hasRoom 23 = .ok (.getfield 26, 3) := by decide +kernel
theorem dX2_hasRoom_26 : decode cX2_hasRoom 26 = .ok (.iload_n 1, 1) := by decide +kernel
theorem dX2_hasRoom_27 : decode cX2_hasRoom 27 = .ok (.iaload, 1) := by decide +kernel
theorem dX2_hasRoom_28 : decode cX2_hasRoom 28 = .ok (.iaload, 1) := by decide +kernel
theorem dX2_hasRoom_29 : decode cX2_hasRoom 29 = .ok (.aload_n 0, 1) := by decide +kernel
theorem dX2_hasRoom_30 : decode cX2_hasRoom 30 = .ok (.getfield 13, 3) := by decide +kernel
theorem dX2_hasRoom_33 : decode cX2_hasRoom 33 = .ok (.getfield 32, 3) := by decide +kernel
theorem dX2_hasRoom_36 : decode cX2_hasRoom 36 = .ok (.iload_n 1, 1) := by decide +kernel
theorem dX2_hasRoom_37 : decode cX2_hasRoom 37 = .ok (.iaload, 1) := by decide +kernel
theorem dX2_hasRoom_38 : decode cX2_hasRoom 38 = .ok (.invokevirtual 70, 3) := by decide +kernel
theorem dX2_hasRoom_41 : decode cX2_hasRoom 41 = .ok (.ireturn, 1) := by decide +kernel
theorem dX2_hasRoom_42 : decode cX2_hasRoom 42 = .ok (.aload_n 0, 1) := by decide +kernel
theorem dX2_hasRoom_43 : decode cX2_hasRoom 43 = .ok (.getfield 13, 3) := by decide +kernel
theorem dX2_hasRoom_46 : decode cX2_hasRoom 46 = .ok (.getstatic 73, 3) := by decide +kernel
theorem dX2_hasRoom_49 : decode cX2_hasRoom 49 = .ok (.iload_n 2, 1) := by decide +kernel
theorem dX2_hasRoom_50 : decode cX2_hasRoom 50 = .ok (.iaload, 1) := by decide +kernel
theorem dX2_hasRoom_51 : decode cX2_hasRoom 51 = .ok (.invokevirtual 76, 3) := by decide +kernel
theorem dX2_hasRoom_54 : decode cX2_hasRoom 54 = .ok (.ireturn, 1) := by decide +kernel
theorem dX2_apply_0 : decode cX2_apply 0 = .ok (.aload_n 0, 1) := by decide +kernel
theorem dX2_apply_1 : decode cX2_apply 1 = .ok (.getfield 13, 3) := by decide +kernel
theorem dX2_apply_4 : decode cX2_apply 4 = .ok (.getfield 26, 3) := by decide +kernel
theorem dX2_apply_7 : decode cX2_apply 7 = .ok (.iload_n 1, 1) := by decide +kernel
theorem dX2_apply_8 : decode cX2_apply 8 = .ok (.iaload, 1) := by decide +kernel
theorem dX2_apply_9 : decode cX2_apply 9 = .ok (.istore_n 3, 1) := by decide +kernel
theorem dX2_apply_10 : decode cX2_apply 10 = .ok (.aload_n 0, 1) := by decide +kernel
theorem dX2_apply_11 : decode cX2_apply 11 = .ok (.dup, 1) := by decide +kernel
theorem dX2_apply_12 : decode cX2_apply 12 = .ok (.getfield 79, 3) := by decide +kernel
theorem dX2_apply_15 : decode cX2_apply 15 = .ok (.iconst 1, 1) := by decide +kernel
theorem dX2_apply_16 : decode cX2_apply 16 = .ok (.iadd, 1) := by decide +kernel
theorem dX2_apply_17 : decode cX2_apply 17 = .ok (.putfield 79, 3) := by decide +kernel
theorem dX2_apply_20 : decode cX2_apply 20 = .ok (.iload_n 2, 1) := by decide +kernel
theorem dX2_apply_21 : decode cX2_apply 21 = .ok (.tableswitch 288 3 16 #[71, 103, 288, 288, 140, 234, 176, 234, 103, 252, 234, 234, 204, 252], 71) := by decide +kernel
theorem dX2_apply_92 : decode cX2_apply 92 = .ok (.aload_n 0, 1) := by decide +kernel
theorem dX2_apply_93 : decode cX2_apply 93 = .ok (.iload_n 1, 1) := by decide +kernel
theorem dX2_apply_94 : decode cX2_apply 94 = .ok (.iload_n 3, 1) := by decide +kernel
theorem dX2_apply_95 : decode cX2_apply 95 = .ok (.aload_n 0, 1) := by decide +kernel
theorem dX2_apply_96 : decode cX2_apply 96 = .ok (.getfield 13, 3) := by decide +kernel
theorem dX2_apply_99 : decode cX2_apply 99 = .ok (.getfield 26, 3) := by decide +kernel
theorem dX2_apply_102 : decode cX2_apply 102 = .ok (.iload_n 3, 1) := by decide +kernel
theorem dX2_apply_103 : decode cX2_apply 103 = .ok (.iaload, 1) := by decide +kernel
theorem dX2_apply_104 : decode cX2_apply 104 = .ok (.aload_n 0, 1) := by decide +kernel
theorem dX2_apply_105 : decode cX2_apply 105 = .ok (.iload_n 1, 1) := by decide +kernel
theorem dX2_apply_106 : decode cX2_apply 106 = .ok (.aload_n 0, 1) := by decide +kernel
theorem dX2_apply_107 : decode cX2_apply 107 = .ok (.getfield 13, 3) := by decide +kernel
theorem dX2_apply_110 : decode cX2_apply 110 = .ok (.getfield 64, 3) := by decide +kernel
theorem dX2_apply_113 : decode cX2_apply 113 = .ok (.iload_n 3, 1) := by decide +kernel
theorem dX2_apply_114 : decode cX2_apply 114 = .ok (.iaload, 1) := by decide +kernel
theorem dX2_apply_115 : decode cX2_apply 115 = .ok (.invokevirtual 83, 3) := by decide +kernel
theorem dX2_apply_118 : decode cX2_apply 118 = .ok (.invokevirtual 87, 3) := by decide +kernel
theorem dX2_apply_121 : decode cX2_apply 121 = .ok (.goto 217, 3) := by decide +kernel
theorem dX2_apply_124 : decode cX2_apply 124 = .ok (.aload_n 0, 1) := by decide +kernel
theorem dX2_apply_125 : decode cX2_apply 125 = .ok (.iload_n 1, 1) := by decide +kernel
theorem dX2_apply_126 : decode cX2_apply 126 = .ok (.iload_n 3, 1) := by decide +kernel
theorem dX2_apply_127 : decode cX2_apply 127 = .ok (.aload_n 0, 1) := by decide +kernel
theorem dX2_apply_128 : decode cX2_apply 128 = .ok (.iload_n 1, 1) := by decide +kernel
theorem dX2_apply_129 : decode cX2_apply 129 = .ok (.aload_n 0, 1) := by decide +kernel
theorem dX2_apply_130 : decode cX2_apply 130 = .ok (.getfield 13, 3) := by decide +kernel
theorem dX2_apply_133 : decode cX2_apply 133 = .ok (.getfield 26, 3) := by decide +kernel
theorem dX2_apply_136 : decode cX2_apply 136 = .ok (.iload_n 3, 1) := by decide +kernel
theorem dX2_apply_137 : decode cX2_apply 137 = .ok (.iaload, 1) := by decide +kernel
theorem dX2_apply_138 : decode cX2_apply 138 = .ok (.invokevirtual 83, 3) := by decide +kernel
theorem dX2_apply_141 : decode cX2_apply 141 = .ok (.aload_n 0, 1) := by decide +kernel
theorem dX2_apply_142 : decode cX2_apply 142 = .ok (.iload_n 1, 1) := by decide +kernel
theorem dX2_apply_143 : decode cX2_apply 143 = .ok (.aload_n 0, 1) := by decide +kernel
theorem dX2_apply_144 : decode cX2_apply 144 = .ok (.getfield 13, 3) := by decide +kernel
theorem dX2_apply_147 : decode cX2_apply 147 = .ok (.getfield 64, 3) := by decide +kernel
theorem dX2_apply_150 : decode cX2_apply 150 = .ok (.iload_n 3, 1) := by decide +kernel
theorem dX2_apply_151 : decode cX2_apply 151 = .ok (.iaload, 1) := by decide +kernel
theorem dX2_apply_152 : decode cX2_apply 152 = .ok (.invokevirtual 83, 3) := by decide +kernel
theorem dX2_apply_155 : decode cX2_apply 155 = .ok (.invokevirtual 87, 3) := by decide +kernel
theorem dX2_apply_158 : decode cX2_apply 158 = .ok (.goto 180, 3) := by decide +kernel
theorem dX2_apply_161 : decode cX2_apply 161 = .ok (.aload_n 0, 1) := by decide +kernel
theorem dX2_apply_162 : decode cX2_apply 162 = .ok (.iload_n 1, 1) := by decide +kernel
theorem dX2_apply_163 : decode cX2_apply 163 = .ok (.iload_n 3, 1) := by decide +kernel
theorem dX2_apply_164 : decode cX2_apply 164 = .ok (.aload_n 0, 1) := by decide +kernel
theorem dX2_apply_165 : decode cX2_apply 165 = .ok (.getfield 7, 3) := by decide +kernel
theorem dX2_apply_168 : decode cX2_apply 168 = .ok (.bipush 9, 2) := by decide +kernel
theorem dX2_apply_170 : decode cX2_apply 170 = .ok (.aload_n 0, 1) := by decide +kernel
theorem dX2_apply_171 : decode cX2_apply 171 = .ok (.getfield 13, 3) := by decide +kernel
theorem dX2_apply_174 : decode cX2_apply 174 = .ok (.getfield 32, 3) := by decide +kernel
theorem dX2_apply_177 : decode cX2_apply 177 = .ok (.iload_n 3, 1) := by decide +kernel
theorem dX2_apply_178 : decode cX2_apply 178 = .ok (.iaload, 1) := by decide +kernel
theorem dX2_apply_179 : decode cX2_apply 179 = .ok (.aload_n 0, 1) := by decide +kernel
theorem dX2_apply_180 : decode cX2_apply 180 = .ok (.getfield 13, 3) := by decide +kernel
theorem dX2_apply_183 : decode cX2_apply 183 = .ok (.getfield 32, 3) := by decide +kernel
theorem dX2_apply_186 : decode cX2_apply 186 = .ok (.iload_n 1, 1) := by decide +kernel
theorem dX2_apply_187 : decode cX2_apply 187 = .ok (.iaload, 1) := by decide +kernel
theorem dX2_apply_188 : decode cX2_apply 188 = .ok (.invokevirtual 91, 3) := by decide +kernel
theorem dX2_apply_191 : decode cX2_apply 191 = .ok (.invokevirtual 95, 3) := by decide +kernel
theorem dX2_apply_194 : decode cX2_apply 194 = .ok (.goto 144, 3) := by decide +kernel
theorem dX2_apply_197 : decode cX2_apply 197 = .ok (.aload_n 0, 1) := by decide +kernel
theorem dX2_apply_198 : decode cX2_apply 198 = .ok (.iload_n 1, 1) := by decide +kernel
theorem dX2_apply_199 : decode cX2_apply 199 = .ok (.iload_n 3, 1) := by decide +kernel
theorem dX2_apply_200 : decode cX2_apply 200 = .ok (.aload_n 0, 1) := by decide +kernel
theorem dX2_apply_201 : decode cX2_apply 201 = .ok (.getfield 13, 3) := by decide +kernel
theorem dX2_apply_204 : decode cX2_apply 204 = .ok (.getfield 32, 3) := by decide +kernel
theorem dX2_apply_207 : decode cX2_apply 207 = .ok (.iload_n 3, 1) := by decide +kernel
theorem dX2_apply_208 : decode cX2_apply 208 = .ok (.iaload, 1) := by decide +kernel
theorem dX2_apply_209 : decode cX2_apply 209 = .ok (.aload_n 0, 1) := by decide +kernel
theorem dX2_apply_210 : decode cX2_apply 210 = .ok (.getfield 13, 3) := by decide +kernel
theorem dX2_apply_213 : decode cX2_apply 213 = .ok (.getfield 32, 3) := by decide +kernel
theorem dX2_apply_216 : decode cX2_apply 216 = .ok (.iload_n 1, 1) := by decide +kernel
theorem dX2_apply_217 : decode cX2_apply 217 = .ok (.iaload, 1) := by decide +kernel
theorem dX2_apply_218 : decode cX2_apply 218 = .ok (.iand, 1) := by decide +kernel
theorem dX2_apply_219 : decode cX2_apply 219 = .ok (.invokevirtual 95, 3) := by decide +kernel
theorem dX2_apply_222 : decode cX2_apply 222 = .ok (.goto 116, 3) := by decide +kernel
theorem dX2_apply_225 : decode cX2_apply 225 = .ok (.aload_n 0, 1) := by decide +kernel
theorem dX2_apply_226 : decode cX2_apply 226 = .ok (.iload_n 1, 1) := by decide +kernel
theorem dX2_apply_227 : decode cX2_apply 227 = .ok (.iload_n 3, 1) := by decide +kernel
theorem dX2_apply_228 : decode cX2_apply 228 = .ok (.aload_n 0, 1) := by decide +kernel
theorem dX2_apply_229 : decode cX2_apply 229 = .ok (.getfield 13, 3) := by decide +kernel
theorem dX2_apply_232 : decode cX2_apply 232 = .ok (.getfield 32, 3) := by decide +kernel
theorem dX2_apply_235 : decode cX2_apply 235 = .ok (.iload_n 3, 1) := by decide +kernel
theorem dX2_apply_236 : decode cX2_apply 236 = .ok (.iaload, 1) := by decide +kernel
theorem dX2_apply_237 : decode cX2_apply 237 = .ok (.aload_n 0, 1) := by decide +kernel
theorem dX2_apply_238 : decode cX2_apply 238 = .ok (.getfield 13, 3) := by decide +kernel
theorem dX2_apply_241 : decode cX2_apply 241 = .ok (.getfield 32, 3) := by decide +kernel
theorem dX2_apply_244 : decode cX2_apply 244 = .ok (.iload_n 1, 1) := by decide +kernel
theorem dX2_apply_245 : decode cX2_apply 245 = .ok (.iaload, 1) := by decide +kernel
theorem dX2_apply_246 : decode cX2_apply 246 = .ok (.invokestatic 99, 3) := by decide +kernel
theorem dX2_apply_249 : decode cX2_apply 249 = .ok (.invokevirtual 95, 3) := by decide +kernel
theorem dX2_apply_252 : decode cX2_apply 252 = .ok (.goto 86, 3) := by decide +kernel
theorem dX2_apply_255 : decode cX2_apply 255 = .ok (.aload_n 0, 1) := by decide +kernel
theorem dX2_apply_256 : decode cX2_apply 256 = .ok (.iload_n 1, 1) := by decide +kernel
theorem dX2_apply_257 : decode cX2_apply 257 = .ok (.iload_n 3, 1) := by decide +kernel
theorem dX2_apply_258 : decode cX2_apply 258 = .ok (.aload_n 0, 1) := by decide +kernel
theorem dX2_apply_259 : decode cX2_apply 259 = .ok (.getfield 13, 3) := by decide +kernel
theorem dX2_apply_262 : decode cX2_apply 262 = .ok (.getfield 32, 3) := by decide +kernel
theorem dX2_apply_265 : decode cX2_apply 265 = .ok (.iload_n 1, 1) := by decide +kernel
theorem dX2_apply_266 : decode cX2_apply 266 = .ok (.iaload, 1) := by decide +kernel
theorem dX2_apply_267 : decode cX2_apply 267 = .ok (.invokevirtual 95, 3) := by decide +kernel
theorem dX2_apply_270 : decode cX2_apply 270 = .ok (.goto 68, 3) := by decide +kernel
theorem dX2_apply_273 : decode cX2_apply 273 = .ok (.aload_n 0, 1) := by decide +kernel
theorem dX2_apply_274 : decode cX2_apply 274 = .ok (.iload_n 1, 1) := by decide +kernel
theorem dX2_apply_275 : decode cX2_apply 275 = .ok (.aload_n 0, 1) := by decide +kernel
theorem dX2_apply_276 : decode cX2_apply 276 = .ok (.iload_n 1, 1) := by decide +kernel
theorem dX2_apply_277 : decode cX2_apply 277 = .ok (.aload_n 0, 1) := by decide +kernel
theorem dX2_apply_278 : decode cX2_apply 278 = .ok (.getfield 13, 3) := by decide +kernel
theorem dX2_apply_281 : decode cX2_apply 281 = .ok (.getfield 26, 3) := by decide +kernel
theorem dX2_apply_284 : decode cX2_apply 284 = .ok (.iload_n 3, 1) := by decide +kernel
theorem dX2_apply_285 : decode cX2_apply 285 = .ok (.iaload, 1) := by decide +kernel
theorem dX2_apply_286 : decode cX2_apply 286 = .ok (.invokevirtual 83, 3) := by decide +kernel
theorem dX2_apply_289 : decode cX2_apply 289 = .ok (.aload_n 0, 1) := by decide +kernel
theorem dX2_apply_290 : decode cX2_apply 290 = .ok (.iload_n 1, 1) := by decide +kernel
theorem dX2_apply_291 : decode cX2_apply 291 = .ok (.aload_n 0, 1) := by decide +kernel
theorem dX2_apply_292 : decode cX2_apply 292 = .ok (.getfield 13, 3) := by decide +kernel
theorem dX2_apply_295 : decode cX2_apply 295 = .ok (.getfield 64, 3) := by decide +kernel
theorem dX2_apply_298 : decode cX2_apply 298 = .ok (.iload_n 3, 1) := by decide +kernel
theorem dX2_apply_299 : decode cX2_apply 299 = .ok (.iaload, 1) := by decide +kernel
theorem dX2_apply_300 : decode cX2_apply 300 = .ok (.invokevirtual 83, 3) := by decide +kernel
theorem dX2_apply_303 : decode cX2_apply 303 = .ok (.invokevirtual 104, 3) := by decide +kernel
theorem dX2_apply_306 : decode cX2_apply 306 = .ok (.goto 32, 3) := by decide +kernel
theorem dX2_apply_309 : decode cX2_apply 309 = .ok (.aload_n 0, 1) := by decide +kernel
theorem dX2_apply_310 : decode cX2_apply 310 = .ok (.iload_n 1, 1) := by decide +kernel
theorem dX2_apply_311 : decode cX2_apply 311 = .ok (.iload_n 3, 1) := by decide +kernel
theorem dX2_apply_312 : decode cX2_apply 312 = .ok (.aload_n 0, 1) := by decide +kernel
theorem dX2_apply_313 : decode cX2_apply 313 = .ok (.iload_n 1, 1) := by decide +kernel
theorem dX2_apply_314 : decode cX2_apply 314 = .ok (.aload_n 0, 1) := by decide +kernel
theorem dX2_apply_315 : decode cX2_apply 315 = .ok (.getfield 13, 3) := by decide +kernel
theorem dX2_apply_318 : decode cX2_apply 318 = .ok (.getfield 26, 3) := by decide +kernel
theorem dX2_apply_321 : decode cX2_apply 321 = .ok (.iload_n 3, 1) := by decide +kernel
theorem dX2_apply_322 : decode cX2_apply 322 = .ok (.iaload, 1) := by decide +kernel
theorem dX2_apply_323 : decode cX2_apply 323 = .ok (.invokevirtual 83, 3) := by decide +kernel
theorem dX2_apply_326 : decode cX2_apply 326 = .ok (.aload_n 0, 1) := by decide +kernel
theorem dX2_apply_327 : decode cX2_apply 327 = .ok (.getfield 13, 3) := by decide +kernel
theorem dX2_apply_330 : decode cX2_apply 330 = .ok (.getfield 64, 3) := by decide +kernel
theorem dX2_apply_333 : decode cX2_apply 333 = .ok (.iload_n 3, 1) := by decide +kernel
theorem dX2_apply_334 : decode cX2_apply 334 = .ok (.iaload, 1) := by decide +kernel
theorem dX2_apply_335 : decode cX2_apply 335 = .ok (.invokevirtual 87, 3) := by decide +kernel
theorem dX2_apply_338 : decode cX2_apply 338 = .ok (.return_, 1) := by decide +kernel
theorem dX2_exchange_0 : decode cX2_exchange 0 = .ok (.aload_n 0, 1) := by decide +kernel
theorem dX2_exchange_1 : decode cX2_exchange 1 = .ok (.getfield 13, 3) := by decide +kernel
theorem dX2_exchange_4 : decode cX2_exchange 4 = .ok (.iload_n 1, 1) := by decide +kernel
theorem dX2_exchange_5 : decode cX2_exchange 5 = .ok (.aload_n 0, 1) := by decide +kernel
theorem dX2_exchange_6 : decode cX2_exchange 6 = .ok (.getfield 13, 3) := by decide +kernel
theorem dX2_exchange_9 : decode cX2_exchange 9 = .ok (.getfield 17, 3) := by decide +kernel
theorem dX2_exchange_12 : decode cX2_exchange 12 = .ok (.iload_n 2, 1) := by decide +kernel
theorem dX2_exchange_13 : decode cX2_exchange 13 = .ok (.iaload, 1) := by decide +kernel
theorem dX2_exchange_14 : decode cX2_exchange 14 = .ok (.iload_n 3, 1) := by decide +kernel
theorem dX2_exchange_15 : decode cX2_exchange 15 = .ok (.iload 4, 2) := by decide +kernel
theorem dX2_exchange_17 : decode cX2_exchange 17 = .ok (.aload_n 0, 1) := by decide +kernel
theorem dX2_exchange_18 : decode cX2_exchange 18 = .ok (.getfield 13, 3) := by decide +kernel
theorem dX2_exchange_21 : decode cX2_exchange 21 = .ok (.getfield 51, 3) := by decide +kernel
theorem dX2_exchange_24 : decode cX2_exchange 24 = .ok (.iload_n 2, 1) := by decide +kernel
theorem dX2_exchange_25 : decode cX2_exchange 25 = .ok (.iaload, 1) := by decide +kernel
theorem dX2_exchange_26 : decode cX2_exchange 26 = .ok (.aload_n 0, 1) := by decide +kernel
theorem dX2_exchange_27 : decode cX2_exchange 27 = .ok (.getfield 13, 3) := by decide +kernel
theorem dX2_exchange_30 : decode cX2_exchange 30 = .ok (.getfield 32, 3) := by decide +kernel
theorem dX2_exchange_33 : decode cX2_exchange 33 = .ok (.iload_n 2, 1) := by decide +kernel
theorem dX2_exchange_34 : decode cX2_exchange 34 = .ok (.iaload, 1) := by decide +kernel
theorem dX2_exchange_35 : decode cX2_exchange 35 = .ok (.invokevirtual 107, 3) := by decide +kernel
theorem dX2_exchange_38 : decode cX2_exchange 38 = .ok (.return_, 1) := by decide +kernel
theorem dX2_skip_0 : decode cX2_skip 0 = .ok (.aload_n 0, 1) := by decide +kernel
theorem dX2_skip_1 : decode cX2_skip 1 = .ok (.getfield 13, 3) := by decide +kernel
theorem dX2_skip_4 : decode cX2_skip 4 = .ok (.iload_n 1, 1) := by decide +kernel
theorem dX2_skip_5 : decode cX2_skip 5 = .ok (.aload_n 0, 1) := by decide +kernel
theorem dX2_skip_6 : decode cX2_skip 6 = .ok (.getfield 13, 3) := by decide +kernel
theorem dX2_skip_9 : decode cX2_skip 9 = .ok (.getfield 17, 3) := by decide +kernel
theorem dX2_skip_12 : decode cX2_skip 12 = .ok (.iload_n 1, 1) := by decide +kernel
theorem dX2_skip_13 : decode cX2_skip 13 = .ok (.iaload, 1) := by decide +kernel
theorem dX2_skip_14 : decode cX2_skip 14 = .ok (.aload_n 0, 1) := by decide +kernel
theorem dX2_skip_15 : decode cX2_skip 15 = .ok (.getfield 13, 3) := by decide +kernel
theorem dX2_skip_18 : decode cX2_skip 18 = .ok (.getfield 26, 3) := by decide +kernel
theorem dX2_skip_21 : decode cX2_skip 21 = .ok (.iload_n 2, 1) := by decide +kernel
theorem dX2_skip_22 : decode cX2_skip 22 = .ok (.iaload, 1) := by decide +kernel
theorem dX2_skip_23 : decode cX2_skip 23 = .ok (.iconst 0, 1) := by decide +kernel
theorem dX2_skip_24 : decode cX2_skip 24 = .ok (.aload_n 0, 1) := by decide +kernel
theorem dX2_skip_25 : decode cX2_skip 25 = .ok (.getfield 13, 3) := by decide +kernel
theorem dX2_skip_28 : decode cX2_skip 28 = .ok (.getfield 51, 3) := by decide +kernel
theorem dX2_skip_31 : decode cX2_skip 31 = .ok (.iload_n 1, 1) := by decide +kernel
theorem dX2_skip_32 : decode cX2_skip 32 = .ok (.iaload, 1) := by decide +kernel
theorem dX2_skip_33 : decode cX2_skip 33 = .ok (.iload_n 3, 1) := by decide +kernel
theorem dX2_skip_34 : decode cX2_skip 34 = .ok (.invokevirtual 107, 3) := by decide +kernel
theorem dX2_skip_37 : decode cX2_skip 37 = .ok (.return_, 1) := by decide +kernel
theorem dX2_workAbove_0 : decode cX2_workAbove 0 = .ok (.aload_n 0, 1) := by decide +kernel
theorem dX2_workAbove_1 : decode cX2_workAbove 1 = .ok (.getfield 13, 3) := by decide +kernel
theorem dX2_workAbove_4 : decode cX2_workAbove 4 = .ok (.iconst 5, 1) := by decide +kernel
theorem dX2_workAbove_5 : decode cX2_workAbove 5 = .ok (.iload_n 2, 1) := by decide +kernel
theorem dX2_workAbove_6 : decode cX2_workAbove 6 = .ok (.iload_n 3, 1) := by decide +kernel
theorem dX2_workAbove_7 : decode cX2_workAbove 7 = .ok (.iconst 0, 1) := by decide +kernel
theorem dX2_workAbove_8 : decode cX2_workAbove 8 = .ok (.iconst 0, 1) := by decide +kernel
theorem dX2_workAbove_9 : decode cX2_workAbove 9 = .ok (.invokevirtual 111, 3) := by decide +kernel
theorem dX2_workAbove_12 : decode cX2_workAbove 12 = .ok (.istore 4, 2) := by decide +kernel
theorem dX2_workAbove_14 : decode cX2_workAbove 14 = .ok (.aload_n 0, 1) := by decide +kernel
theorem dX2_workAbove_15 : decode cX2_workAbove 15 = .ok (.getfield 13, 3) := by decide +kernel
theorem dX2_workAbove_18 : decode cX2_workAbove 18 = .ok (.iload_n 1, 1) := by decide +kernel
theorem dX2_workAbove_19 : decode cX2_workAbove 19 = .ok (.aload_n 0, 1) := by decide +kernel
theorem dX2_workAbove_20 : decode cX2_workAbove 20 = .ok (.getfield 13, 3) := by decide +kernel
theorem dX2_workAbove_23 : decode cX2_workAbove 23 = .ok (.getfield 17, 3) := by decide +kernel
theorem dX2_workAbove_26 : decode cX2_workAbove 26 = .ok (.iload_n 1, 1) := by decide +kernel
theorem dX2_workAbove_27 : decode cX2_workAbove 27 = .ok (.iaload, 1) := by decide +kernel
theorem dX2_workAbove_28 : decode cX2_workAbove 28 = .ok (.iload 4, 2) := by decide +kernel
theorem dX2_workAbove_30 : decode cX2_workAbove 30 = .ok (.iconst 0, 1) := by decide +kernel
theorem dX2_workAbove_31 : decode cX2_workAbove 31 = .ok (.aload_n 0, 1) := by decide +kernel
theorem dX2_workAbove_32 : decode cX2_workAbove 32 = .ok (.getfield 13, 3) := by decide +kernel
theorem dX2_workAbove_35 : decode cX2_workAbove 35 = .ok (.getfield 51, 3) := by decide +kernel
theorem dX2_workAbove_38 : decode cX2_workAbove 38 = .ok (.iload_n 1, 1) := by decide +kernel
theorem dX2_workAbove_39 : decode cX2_workAbove 39 = .ok (.iaload, 1) := by decide +kernel
theorem dX2_workAbove_40 : decode cX2_workAbove 40 = .ok (.aload_n 0, 1) := by decide +kernel
theorem dX2_workAbove_41 : decode cX2_workAbove 41 = .ok (.getfield 13, 3) := by decide +kernel
theorem dX2_workAbove_44 : decode cX2_workAbove 44 = .ok (.getfield 32, 3) := by decide +kernel
theorem dX2_workAbove_47 : decode cX2_workAbove 47 = .ok (.iload_n 1, 1) := by decide +kernel
theorem dX2_workAbove_48 : decode cX2_workAbove 48 = .ok (.iaload, 1) := by decide +kernel
theorem dX2_workAbove_49 : decode cX2_workAbove 49 = .ok (.invokevirtual 107, 3) := by decide +kernel
theorem dX2_workAbove_52 : decode cX2_workAbove 52 = .ok (.return_, 1) := by decide +kernel
theorem dX2_addLike_0 : decode cX2_addLike 0 = .ok (.aload_n 0, 1) := by decide +kernel
theorem dX2_addLike_1 : decode cX2_addLike 1 = .ok (.getfield 13, 3) := by decide +kernel
theorem dX2_addLike_4 : decode cX2_addLike 4 = .ok (.aload_n 0, 1) := by decide +kernel
theorem dX2_addLike_5 : decode cX2_addLike 5 = .ok (.getfield 13, 3) := by decide +kernel
theorem dX2_addLike_8 : decode cX2_addLike 8 = .ok (.getfield 17, 3) := by decide +kernel
theorem dX2_addLike_11 : decode cX2_addLike 11 = .ok (.iload_n 1, 1) := by decide +kernel
theorem dX2_addLike_12 : decode cX2_addLike 12 = .ok (.iaload, 1) := by decide +kernel
theorem dX2_addLike_13 : decode cX2_addLike 13 = .ok (.iload_n 2, 1) := by decide +kernel
theorem dX2_addLike_14 : decode cX2_addLike 14 = .ok (.iconst 0, 1) := by decide +kernel
theorem dX2_addLike_15 : decode cX2_addLike 15 = .ok (.aload_n 0, 1) := by decide +kernel
theorem dX2_addLike_16 : decode cX2_addLike 16 = .ok (.getfield 13, 3) := by decide +kernel
theorem dX2_addLike_19 : decode cX2_addLike 19 = .ok (.getfield 51, 3) := by decide +kernel
theorem dX2_addLike_22 : decode cX2_addLike 22 = .ok (.iload_n 1, 1) := by decide +kernel
theorem dX2_addLike_23 : decode cX2_addLike 23 = .ok (.iaload, 1) := by decide +kernel
theorem dX2_addLike_24 : decode cX2_addLike 24 = .ok (.aload_n 0, 1) := by decide +kernel
theorem dX2_addLike_25 : decode cX2_addLike 25 = .ok (.getfield 13, 3) := by decide +kernel
theorem dX2_addLike_28 : decode cX2_addLike 28 = .ok (.getfield 32, 3) := by decide +kernel
theorem dX2_addLike_31 : decode cX2_addLike 31 = .ok (.iload_n 1, 1) := by decide +kernel
theorem dX2_addLike_32 : decode cX2_addLike 32 = .ok (.iaload, 1) := by decide +kernel
theorem dX2_addLike_33 : decode cX2_addLike 33 = .ok (.invokevirtual 111, 3) := by decide +kernel
theorem dX2_addLike_36 : decode cX2_addLike 36 = .ok (.ireturn, 1) := by decide +kernel
theorem dX2_leastNode_0 : decode cX2_leastNode 0 = .ok (.aload_n 0, 1) := by decide +kernel
theorem dX2_leastNode_1 : decode cX2_leastNode 1 = .ok (.getfield 13, 3) := by decide +kernel
theorem dX2_leastNode_4 : decode cX2_leastNode 4 = .ok (.iload_n 1, 1) := by decide +kernel
theorem dX2_leastNode_5 : decode cX2_leastNode 5 = .ok (.invokevirtual 114, 3) := by decide +kernel
theorem dX2_leastNode_8 : decode cX2_leastNode 8 = .ok (.pop, 1) := by decide +kernel
theorem dX2_leastNode_9 : decode cX2_leastNode 9 = .ok (.iconst 0, 1) := by decide +kernel
theorem dX2_leastNode_10 : decode cX2_leastNode 10 = .ok (.istore_n 2, 1) := by decide +kernel
theorem dX2_leastNode_11 : decode cX2_leastNode 11 = .ok (.iload_n 2, 1) := by decide +kernel
theorem dX2_leastNode_12 : decode cX2_leastNode 12 = .ok (.aload_n 0, 1) := by decide +kernel
theorem dX2_leastNode_13 : decode cX2_leastNode 13 = .ok (.getfield 13, 3) := by decide +kernel
theorem dX2_leastNode_16 : decode cX2_leastNode 16 = .ok (.getfield 118, 3) := by decide +kernel
theorem dX2_leastNode_19 : decode cX2_leastNode 19 = .ok (.if_icmp .ge 30, 3) := by decide +kernel
theorem dX2_leastNode_22 : decode cX2_leastNode 22 = .ok (.aload_n 0, 1) := by decide +kernel
theorem dX2_leastNode_23 : decode cX2_leastNode 23 = .ok (.getfield 13, 3) := by decide +kernel
theorem dX2_leastNode_26 : decode cX2_leastNode 26 = .ok (.iload_n 2, 1) := by decide +kernel
theorem dX2_leastNode_27 : decode cX2_leastNode 27 = .ok (.invokevirtual 121, 3) := by decide +kernel
theorem dX2_leastNode_30 : decode cX2_leastNode 30 = .ok (.ifCond .eq 13, 3) := by decide +kernel
theorem dX2_leastNode_33 : decode cX2_leastNode 33 = .ok (.aload_n 0, 1) := by decide +kernel
theorem dX2_leastNode_34 : decode cX2_leastNode 34 = .ok (.iload_n 2, 1) := by decide +kernel
theorem dX2_leastNode_35 : decode cX2_leastNode 35 = .ok (.invokevirtual 124, 3) := by decide +kernel
theorem dX2_leastNode_38 : decode cX2_leastNode 38 = .ok (.ifCond .lt 5, 3) := by decide +kernel
theorem dX2_leastNode_41 : decode cX2_leastNode 41 = .ok (.iload_n 2, 1) := by decide +kernel
theorem dX2_leastNode_42 : decode cX2_leastNode 42 = .ok (.ireturn, 1) := by decide +kernel
theorem dX2_leastNode_43 : decode cX2_leastNode 43 = .ok (.iinc 2 1, 3) := by decide +kernel
theorem dX2_leastNode_46 : decode cX2_leastNode 46 = .ok (.goto (-35), 3) := by decide +kernel
theorem dX2_leastNode_49 : decode cX2_leastNode 49 = .ok (.iconst (-1), 1) := by decide +kernel
theorem dX2_leastNode_50 : decode cX2_leastNode 50 = .ok (.ireturn, 1) := by decide +kernel
theorem dX2_leastRule_0 : decode cX2_leastRule 0 = .ok (.iconst 0, 1) := by decide +kernel
theorem dX2_leastRule_1 : decode cX2_leastRule 1 = .ok (.istore_n 2, 1) := by decide +kernel
theorem dX2_leastRule_2 : decode cX2_leastRule 2 = .ok (.iload_n 2, 1) := by decide +kernel
theorem dX2_leastRule_3 : decode cX2_leastRule 3 = .ok (.bipush 18, 2) := by decide +kernel
theorem dX2_leastRule_5 : decode cX2_leastRule 5 = .ok (.if_icmp .ge 20, 3) := by decide +kernel
theorem dX2_leastRule_8 : decode cX2_leastRule 8 = .ok (.aload_n 0, 1) := by decide +kernel
theorem dX2_leastRule_9 : decode cX2_leastRule 9 = .ok (.iload_n 1, 1) := by decide +kernel
theorem dX2_leastRule_10 : decode cX2_leastRule 10 = .ok (.iload_n 2, 1) := by decide +kernel
theorem dX2_leastRule_11 : decode cX2_leastRule 11 = .ok (.invokevirtual 127, 3) := by decide +kernel
theorem dX2_leastRule_14 : decode cX2_leastRule 14 = .ok (.ifCond .eq 5, 3) := by decide +kernel
theorem dX2_leastRule_17 : decode cX2_leastRule 17 = .ok (.iload_n 2, 1) := by decide +kernel
theorem dX2_leastRule_18 : decode cX2_leastRule 18 = .ok (.ireturn, 1) := by decide +kernel
theorem dX2_leastRule_19 : decode cX2_leastRule 19 = .ok (.iinc 2 1, 3) := by decide +kernel
theorem dX2_leastRule_22 : decode cX2_leastRule 22 = .ok (.goto (-20), 3) := by decide +kernel
theorem dX2_leastRule_25 : decode cX2_leastRule 25 = .ok (.iconst (-1), 1) := by decide +kernel
theorem dX2_leastRule_26 : decode cX2_leastRule 26 = .ok (.ireturn, 1) := by decide +kernel
