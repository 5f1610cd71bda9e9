theorem dX6_init_0 : decode cX6_init 0 = .ok (.aload_n 0, 1) := by decide +kernel
theorem dX6_init_1 : decode cX6_init 1 = .ok (.invokespecial 1, 3) := by decide +kernel
theorem dX6_init_4 : decode cX6_init 4 = .ok (.aload_n 0, 1) := by decide +kernel
theorem dX6_init_5 : decode cX6_init 5 = .ok (.iconst 4, 1) := by decide +kernel
theorem dX6_init_6 : decode cX6_init 6 = .ok (.newarray .int, 2) := by decide +kernel
theorem dX6_init_8 : decode cX6_init 8 = .ok (.putfield 7, 3) := by decide +kernel
theorem dX6_init_11 : decode cX6_init 11 = .ok (.aload_n 0, 1) := by decide +kernel
theorem dX6_init_12 : decode cX6_init 12 = .ok (.bipush 72, 2) := by decide +kernel
theorem dX6_init_14 : decode cX6_init 14 = .ok (.newarray .int, 2) := by decide +kernel
theorem dX6_init_16 : decode cX6_init 16 = .ok (.putfield 13, 3) := by decide +kernel
theorem dX6_init_19 : decode cX6_init 19 = .ok (.aload_n 0, 1) := by decide +kernel
theorem dX6_init_20 : decode cX6_init 20 = .ok (.bipush 8, 2) := by decide +kernel
theorem dX6_init_22 : decode cX6_init 22 = .ok (.newarray .int, 2) := by decide +kernel
theorem dX6_init_24 : decode cX6_init 24 = .ok (.putfield 16, 3) := by decide +kernel
theorem dX6_init_27 : decode cX6_init 27 = .ok (.aload_n 0, 1) := by decide +kernel
theorem dX6_init_28 : decode cX6_init 28 = .ok (.bipush 40, 2) := by decide +kernel
theorem dX6_init_30 : decode cX6_init 30 = .ok (.newarray .int, 2) := by decide +kernel
theorem dX6_init_32 : decode cX6_init 32 = .ok (.putfield 19, 3) := by decide +kernel
theorem dX6_init_35 : decode cX6_init 35 = .ok (.aload_n 0, 1) := by decide +kernel
theorem dX6_init_36 : decode cX6_init 36 = .ok (.bipush 40, 2) := by decide +kernel
theorem dX6_init_38 : decode cX6_init 38 = .ok (.newarray .int, 2) := by decide +kernel
theorem dX6_init_40 : decode cX6_init 40 = .ok (.putfield 22, 3) := by decide +kernel
theorem dX6_init_43 : decode cX6_init 43 = .ok (.aload_n 0, 1) := by decide +kernel
theorem dX6_init_44 : decode cX6_init 44 = .ok (.bipush 40, 2) := by decide +kernel
theorem dX6_init_46 : decode cX6_init 46 = .ok (.newarray .int, 2) := by decide +kernel
theorem dX6_init_48 : decode cX6_init 48 = .ok (.putfield 25, 3) := by decide +kernel
theorem dX6_init_51 : decode cX6_init 51 = .ok (.aload_n 0, 1) := by decide +kernel
theorem dX6_init_52 : decode cX6_init 52 = .ok (.bipush 40, 2) := by decide +kernel
theorem dX6_init_54 : decode cX6_init 54 = .ok (.newarray .int, 2) := by decide +kernel
theorem dX6_init_56 : decode cX6_init 56 = .ok (.putfield 28, 3) := by decide +kernel
theorem dX6_init_59 : decode cX6_init 59 = .ok (.aload_n 0, 1) := by decide +kernel
theorem dX6_init_60 : decode cX6_init 60 = .ok (.bipush 40, 2) := by decide +kernel
theorem dX6_init_62 : decode cX6_init 62 = .ok (.newarray .boolean, 2) := by decide +kernel
theorem dX6_init_64 : decode cX6_init 64 = .ok (.putfield 31, 3) := by decide +kernel
theorem dX6_init_67 : decode cX6_init 67 = .ok (.aload_n 0, 1) := by decide +kernel
theorem dX6_init_68 : decode cX6_init 68 = .ok (.bipush 40, 2) := by decide +kernel
theorem dX6_init_70 : decode cX6_init 70 = .ok (.newarray .int, 2) := by decide +kernel
theorem dX6_init_72 : decode cX6_init 72 = .ok (.putfield 35, 3) := by decide +kernel
theorem dX6_init_75 : decode cX6_init 75 = .ok (.aload_n 0, 1) := by decide +kernel
theorem dX6_init_76 : decode cX6_init 76 = .ok (.bipush 60, 2) := by decide +kernel
theorem dX6_init_78 : decode cX6_init 78 = .ok (.newarray .int, 2) := by decide +kernel
theorem dX6_init_80 : decode cX6_init 80 = .ok (.putfield 38, 3) := by decide +kernel
theorem dX6_init_83 : decode cX6_init 83 = .ok (.aload_n 0, 1) := by decide +kernel
theorem dX6_init_84 : decode cX6_init 84 = .ok (.bipush 60, 2) := by decide +kernel
theorem dX6_init_86 : decode cX6_init 86 = .ok (.newarray .int, 2) := by decide +kernel
theorem dX6_init_88 : decode cX6_init 88 = .ok (.putfield 41, 3) := by decide +kernel
theorem dX6_init_91 : decode cX6_init 91 = .ok (.aload_n 0, 1) := by decide +kernel
theorem dX6_init_92 : decode cX6_init 92 = .ok (.bipush 60, 2) := by decide +kernel
theorem dX6_init_94 : decode cX6_init 94 = .ok (.newarray .int, 2) := by decide +kernel
theorem dX6_init_96 : decode cX6_init 96 = .ok (.putfield 44, 3) := by decide +kernel
theorem dX6_init_99 : decode cX6_init 99 = .ok (.aload_n 0, 1) := by decide +kernel
theorem dX6_init_100 : decode cX6_init 100 = .ok (.bipush 60, 2) := by decide +kernel
theorem dX6_init_102 : decode cX6_init 102 = .ok (.newarray .int, 2) := by decide +kernel
theorem dX6_init_104 : decode cX6_init 104 = .ok (.putfield 47, 3) := by decide +kernel
theorem dX6_init_107 : decode cX6_init 107 = .ok (.aload_n 0, 1) := by decide +kernel
theorem dX6_init_108 : decode cX6_init 108 = .ok (.bipush 60, 2) := by decide +kernel
theorem dX6_init_110 : decode cX6_init 110 = .ok (.newarray .int, 2) := by decide +kernel
theorem dX6_init_112 : decode cX6_init 112 = .ok (.putfield 50, 3) := by decide +kernel
theorem dX6_init_115 : decode cX6_init 115 = .ok (.aload_n 0, 1) := by decide +kernel
theorem dX6_init_116 : decode cX6_init 116 = .ok (.bipush 60, 2) := by decide +kernel
theorem dX6_init_118 : decode cX6_init 118 = .ok (.newarray .int, 2) := by decide +kernel
theorem dX6_init_120 : decode cX6_init 120 = .ok (.putfield 53, 3) := by decide +kernel
theorem dX6_init_123 : decode cX6_init 123 = .ok (.aload_n 0, 1) := by decide +kernel
theorem dX6_init_124 : decode cX6_init 124 = .ok (.bipush 60, 2) := by decide +kernel
theorem dX6_init_126 : decode cX6_init 126 = .ok (.newarray .boolean, 2) := by decide +kernel
theorem dX6_init_128 : decode cX6_init 128 = .ok (.putfield 56, 3) := by decide +kernel
theorem dX6_init_131 : decode cX6_init 131 = .ok (.aload_n 0, 1) := by decide +kernel
theorem dX6_init_132 : decode cX6_init 132 = .ok (.bipush 40, 2) := by decide +kernel
theorem dX6_init_134 : decode cX6_init 134 = .ok (.newarray .int, 2) := by decide +kernel
theorem dX6_init_136 : decode cX6_init 136 = .ok (.putfield 59, 3) := by decide +kernel
theorem dX6_init_139 : decode cX6_init 139 = .ok (.aload_n 0, 1) := by decide +kernel
theorem dX6_init_140 : decode cX6_init 140 = .ok (.bipush 40, 2) := by decide +kernel
theorem dX6_init_142 : decode cX6_init 142 = .ok (.newarray .int, 2) := by decide +kernel
theorem dX6_init_144 : decode cX6_init 144 = .ok (.putfield 62, 3) := by decide +kernel
theorem dX6_init_147 : decode cX6_init 147 = .ok (.aload_n 0, 1) := by decide +kernel
theorem dX6_init_148 : decode cX6_init 148 = .ok (.bipush 40, 2) := by decide +kernel
theorem dX6_init_150 : decode cX6_init 150 = .ok (.newarray .int, 2) := by decide +kernel
theorem dX6_init_152 : decode cX6_init 152 = .ok (.putfield 65, 3) := by decide +kernel
theorem dX6_init_155 : decode cX6_init 155 = .ok (.aload_n 0, 1) := by decide +kernel
theorem dX6_init_156 : decode cX6_init 156 = .ok (.ldc 68, 2) := by decide +kernel
theorem dX6_init_158 : decode cX6_init 158 = .ok (.newarray .int, 2) := by decide +kernel
theorem dX6_init_160 : decode cX6_init 160 = .ok (.putfield 69, 3) := by decide +kernel
theorem dX6_init_163 : decode cX6_init 163 = .ok (.aload_n 0, 1) := by decide +kernel
theorem dX6_init_164 : decode cX6_init 164 = .ok (.bipush 60, 2) := by decide +kernel
theorem dX6_init_166 : decode cX6_init 166 = .ok (.newarray .int, 2) := by decide +kernel
theorem dX6_init_168 : decode cX6_init 168 = .ok (.putfield 72, 3) := by decide +kernel
theorem dX6_init_171 : decode cX6_init 171 = .ok (.aload_n 0, 1) := by decide +kernel
theorem dX6_init_172 : decode cX6_init 172 = .ok (.bipush 60, 2) := by decide +kernel
theorem dX6_init_174 : decode cX6_init 174 = .ok (.newarray .boolean, 2) := by decide +kernel
theorem dX6_init_176 : decode cX6_init 176 = .ok (.putfield 75, 3) := by decide +kernel
theorem dX6_init_179 : decode cX6_init 179 = .ok (.aload_n 0, 1) := by decide +kernel
theorem dX6_init_180 : decode cX6_init 180 = .ok (.bipush 60, 2) := by decide +kernel
theorem dX6_init_182 : decode cX6_init 182 = .ok (.newarray .int, 2) := by decide +kernel
theorem dX6_init_184 : decode cX6_init 184 = .ok (.putfield 78, 3) := by decide +kernel
theorem dX6_init_187 : decode cX6_init 187 = .ok (.aload_n 0, 1) := by decide +kernel
theorem dX6_init_188 : decode cX6_init 188 = .ok (.sipush 600, 3) := by decide +kernel
theorem dX6_init_191 : decode cX6_init 191 = .ok (.newarray .int, 2) := by decide +kernel
theorem dX6_init_193 : decode cX6_init 193 = .ok (.putfield 81, 3) := by decide +kernel
theorem dX6_init_196 : decode cX6_init 196 = .ok (.aload_n 0, 1) := by decide +kernel
theorem dX6_init_197 : decode cX6_init 197 = .ok (.iconst (-1), 1) := by decide +kernel
theorem dX6_init_198 : decode cX6_init 198 = .ok (.putfield 84, 3) := by decide +kernel
theorem dX6_init_201 : decode cX6_init 201 = .ok (.return_, 1) := by decide +kernel
theorem dX6_in_0 : decode cX6_in 0 = .ok (.lload_n 0, 1) := by decide +kernel
theorem dX6_in_1 : decode cX6_in 1 = .ok (.lload_n 2, 1) := by decide +kernel
theorem dX6_in_2 : decode cX6_in 2 = .ok (.lcmp, 1) := by decide +kernel
theorem dX6_in_3 : decode cX6_in 3 = .ok (.ifCond .lt 14, 3) := by decide +kernel
theorem dX6_in_6 : decode cX6_in 6 = .ok (.lload_n 0, 1) := by decide +kernel
theorem dX6_in_7 : decode cX6_in 7 = .ok (.lload 4, 2) := by decide +kernel
theorem dX6_in_9 : decode cX6_in 9 = .ok (.lcmp, 1) := by decide +kernel
theorem dX6_in_10 : decode cX6_in 10 = .ok (.ifCond .gt 7, 3) := by decide +kernel
theorem dX6_in_13 : decode cX6_in 13 = .ok (.iconst 1, 1) := by decide +kernel
theorem dX6_in_14 : decode cX6_in 14 = .ok (.goto 4, 3) := by decide +kernel
theorem dX6_in_17 : decode cX6_in 17 = .ok (.iconst 0, 1) := by decide +kernel
theorem dX6_in_18 : decode cX6_in 18 = .ok (.ireturn, 1) := by decide +kernel
theorem dX6_row_0 : decode cX6_row 0 = .ok (.iload_n 1, 1) := by decide +kernel
theorem dX6_row_1 : decode cX6_row 1 = .ok (.i2l, 1) := by decide +kernel
theorem dX6_row_2 : decode cX6_row 2 = .ok (.lconst 0, 1) := by decide +kernel
theorem dX6_row_3 : decode cX6_row 3 = .ok (.ldc2_w 88, 3) := by decide +kernel
theorem dX6_row_6 : decode cX6_row 6 = .ok (.invokestatic 90, 3) := by decide +kernel
theorem dX6_row_9 : decode cX6_row 9 = .ok (.ifCond .ne 5, 3) := by decide +kernel
theorem dX6_row_12 : decode cX6_row 12 = .ok (.iconst (-1), 1) := by decide +kernel
theorem dX6_row_13 : decode cX6_row 13 = .ok (.ireturn, 1) := by decide +kernel
theorem dX6_row_14 : decode cX6_row 14 = .ok (.aload_n 0, 1) := by decide +kernel
theorem dX6_row_15 : decode cX6_row 15 = .ok (.getfield 7, 3) := by decide +kernel
theorem dX6_row_18 : decode cX6_row 18 = .ok (.iload_n 1, 1) := by decide +kernel
theorem dX6_row_19 : decode cX6_row 19 = .ok (.iaload, 1) := by decide +kernel
theorem dX6_row_20 : decode cX6_row 20 = .ok (.bipush 6, 2) := by decide +kernel
theorem dX6_row_22 : decode cX6_row 22 = .ok (.if_icmp .ne 6, 3) := by decide +kernel
theorem dX6_row_25 : decode cX6_row 25 = .ok (.bipush (-2), 2) := by decide +kernel
theorem dX6_row_27 : decode cX6_row 27 = .ok (.ireturn, 1) := by decide +kernel
theorem dX6_row_28 : decode cX6_row 28 = .ok (.bipush 18, 2) := by decide +kernel
theorem dX6_row_30 : decode cX6_row 30 = .ok (.iload_n 1, 1) := by decide +kernel
theorem dX6_row_31 : decode cX6_row 31 = .ok (.imul, 1) := by decide +kernel
theorem dX6_row_32 : decode cX6_row 32 = .ok (.iconst 3, 1) := by decide +kernel
theorem dX6_row_33 : decode cX6_row 33 = .ok (.aload_n 0, 1) := by decide +kernel
theorem dX6_row_34 : decode cX6_row 34 = .ok (.getfield 7, 3) := by decide +kernel
theorem dX6_row_37 : decode cX6_row 37 = .ok (.iload_n 1, 1) := by decide +kernel
theorem dX6_row_38 : decode cX6_row 38 = .ok (.iaload, 1) := by decide +kernel
theorem dX6_row_39 : decode cX6_row 39 = .ok (.imul, 1) := by decide +kernel
theorem dX6_row_40 : decode cX6_row 40 = .ok (.iadd, 1) := by decide +kernel
theorem dX6_row_41 : decode cX6_row 41 = .ok (.istore 5, 2) := by decide +kernel
theorem dX6_row_43 : decode cX6_row 43 = .ok (.aload_n 0, 1) := by decide +kernel
theorem dX6_row_44 : decode cX6_row 44 = .ok (.getfield 13, 3) := by decide +kernel
theorem dX6_row_47 : decode cX6_row 47 = .ok (.iload 5, 2) := by decide +kernel
theorem dX6_row_49 : decode cX6_row 49 = .ok (.iload_n 2, 1) := by decide +kernel
theorem dX6_row_50 : decode cX6_row 50 = .ok (.iastore, 1) := by decide +kernel
theorem dX6_row_51 : decode cX6_row 51 = .ok (.aload_n 0, 1) := by decide +kernel
theorem dX6_row_52 : decode cX6_row 52 = .ok (.getfield 13, 3) := by decide +kernel
theorem dX6_row_55 : decode cX6_row 55 = .ok (.iload 5, 2) := by decide +kernel
theorem dX6_row_57 : decode cX6_row 57 = .ok (.iconst 1, 1) := by decide +kernel
theorem dX6_row_58 : decode cX6_row 58 = .ok (.iadd, 1) := by decide +kernel
theorem dX6_row_59 : decode cX6_row 59 = .ok (.iload_n 3, 1) := by decide +kernel
theorem dX6_row_60 : decode cX6_row 60 = .ok (.iastore, 1) := by decide +kernel
theorem dX6_row_61 : decode cX6_row 61 = .ok (.aload_n 0, 1) := by decide +kernel
theorem dX6_row_62 : decode cX6_row 62 = .ok (.getfield 13, 3) := by decide +kernel
theorem dX6_row_65 : decode cX6_row 65 = .ok (.iload 5, 2) := by decide +kernel
theorem dX6_row_67 : decode cX6_row 67 = .ok (.iconst 2, 1) := by decide +kernel
theorem dX6_row_68 : decode cX6_row 68 = .ok (.iadd, 1) := by decide +kernel
theorem dX6_row_69 : decode cX6_row 69 = .ok (.iload 4, 2) := by decide +kernel
theorem dX6_row_71 : decode cX6_row 71 = .ok (.iastore, 1) := by decide +kernel
theorem dX6_row_72 : decode cX6_row 72 = .ok (.aload_n 0, 1) := by decide +kernel
theorem dX6_row_73 : decode cX6_row 73 = .ok (.getfield 7, 3) := by decide +kernel
theorem dX6_row_76 : decode cX6_row 76 = .ok (.iload_n 1, 1) := by decide +kernel
theorem dX6_row_77 : decode cX6_row 77 = .ok (.dup2, 1) := by decide +kernel
theorem dX6_row_78 : decode cX6_row 78 = .ok (.iaload, 1) := by decide +kernel
theorem dX6_row_79 : decode cX6_row 79 = .ok (.iconst 1, 1) := by decide +kernel
theorem dX6_row_80 : decode cX6_row 80 = .ok (.iadd, 1) := by decide +kernel
theorem dX6_row_81 : decode cX6_row 81 = .ok (.iastore, 1) := by decide +kernel
theorem dX6_row_82 : decode cX6_row 82 = .ok (.aload_n 0, 1) := by decide +kernel
theorem dX6_row_83 : decode cX6_row 83 = .ok (.getfield 7, 3) := by decide +kernel
theorem dX6_row_86 : decode cX6_row 86 = .ok (.iload_n 1, 1) := by decide +kernel
theorem dX6_row_87 : decode cX6_row 87 = .ok (.iaload, 1) := by decide +kernel
theorem dX6_row_88 : decode cX6_row 88 = .ok (.ireturn, 1) := by decide +kernel
theorem dX6_clear_0 : decode cX6_clear 0 = .ok (.iload_n 1, 1) := by decide +kernel
theorem dX6_clear_1 : decode cX6_clear 1 = .ok (.i2l, 1) := by decide +kernel
theorem dX6_clear_2 : decode cX6_clear 2 = .ok (.lconst 0, 1) := by decide +kernel
theorem dX6_clear_3 : decode cX6_clear 3 = .ok (.ldc2_w 88, 3) := by decide +kernel
theorem dX6_clear_6 : decode cX6_clear 6 = .ok (.invokestatic 90, 3) := by decide +kernel
theorem dX6_clear_9 : decode cX6_clear 9 = .ok (.ifCond .ne 5, 3) := by decide +kernel
theorem dX6_clear_12 : decode cX6_clear 12 = .ok (.iconst (-1), 1) := by decide +kernel
theorem dX6_clear_13 : decode cX6_clear 13 = .ok (.ireturn, 1) := by decide +kernel
theorem dX6_clear_14 : decode cX6_clear 14 = .ok (.aload_n 0, 1) := by decide +kernel
theorem dX6_clear_15 : decode cX6_clear 15 = .ok (.getfield 7, 3) := by decide +kernel
theorem dX6_clear_18 : decode cX6_clear 18 = .ok (.iload_n 1, 1) := by decide +kernel
theorem dX6_clear_19 : decode cX6_clear 19 = .ok (.iaload, 1) := by decide +kernel
theorem dX6_clear_20 : decode cX6_clear 20 = .ok (.istore_n 2, 1) := by decide +kernel
theorem dX6_clear_21 : decode cX6_clear 21 = .ok (.aload_n 0, 1) := by decide +kernel
theorem dX6_clear_22 : decode cX6_clear 22 = .ok (.getfield 7, 3) := by decide +kernel
theorem dX6_clear_25 : decode cX6_clear 25 = .ok (.iload_n 1, 1) := by decide +kernel
theorem dX6_clear_26 : decode cX6_clear 26 = .ok (.iconst 0, 1) := by decide +kernel
theorem dX6_clear_27 : decode cX6_clear 27 = .ok (.iastore, 1) := by decide +kernel
theorem dX6_clear_28 : decode cX6_clear 28 = .ok (.iload_n 2, 1) := by decide +kernel
theorem dX6_clear_29 : decode cX6_clear 29 = .ok (.ireturn, 1) := by decide +kernel
theorem dX6_table_0 : decode cX6_table 0 = .ok (.iload_n 1, 1) := by decide +kernel
theorem dX6_table_1 : decode cX6_table 1 = .ok (.i2l, 1) := by decide +kernel
theorem dX6_table_2 : decode cX6_table 2 = .ok (.lconst 0, 1) := by decide +kernel
theorem dX6_table_3 : decode cX6_table 3 = .ok (.ldc2_w 94, 3) := by decide +kernel
theorem dX6_table_6 : decode cX6_table 6 = .ok (.invokestatic 90, 3) := by decide +kernel
theorem dX6_table_9 : decode cX6_table 9 = .ok (.ifCond .ne 5, 3) := by decide +kernel
theorem dX6_table_12 : decode cX6_table 12 = .ok (.iconst (-1), 1) := by decide +kernel
theorem dX6_table_13 : decode cX6_table 13 = .ok (.ireturn, 1) := by decide +kernel
theorem dX6_table_14 : decode cX6_table 14 = .ok (.aload_n 0, 1) := by decide +kernel
theorem dX6_table_15 : decode cX6_table 15 = .ok (.getfield 16, 3) := by decide +kernel
theorem dX6_table_18 : decode cX6_table 18 = .ok (.iload_n 1, 1) := by decide +kernel
theorem dX6_table_19 : decode cX6_table 19 = .ok (.iload_n 2, 1) := by decide +kernel
theorem dX6_table_20 : decode cX6_table 20 = .ok (.iastore, 1) := by decide +kernel
theorem dX6_table_21 : decode cX6_table 21 = .ok (.iconst 1, 1) := by decide +kernel
theorem dX6_table_22 : decode cX6_table 22 = .ok (.ireturn, 1) := by decide +kernel
theorem dX6_isFormula_0 : decode cX6_isFormula 0 = .ok (.iload_n 1, 1) := by decide +kernel
theorem dX6_isFormula_1 : decode cX6_isFormula 1 = .ok (.i2l, 1) := by decide +kernel
theorem dX6_isFormula_2 : decode cX6_isFormula 2 = .ok (.lconst 0, 1) := by decide +kernel
theorem dX6_isFormula_3 : decode cX6_isFormula 3 = .ok (.aload_n 0, 1) := by decide +kernel
theorem dX6_isFormula_4 : decode cX6_isFormula 4 = .ok (.getfield 96, 3) := by decide +kernel
theorem dX6_isFormula_7 : decode cX6_isFormula 7 = .ok (.iconst 1, 1) := by decide +kernel
theorem dX6_isFormula_8 : decode cX6_isFormula 8 = .ok (.isub, 1) := by decide +kernel
theorem dX6_isFormula_9 : decode cX6_isFormula 9 = .ok (.i2l, 1) := by decide +kernel
theorem dX6_isFormula_10 : decode cX6_isFormula 10 = .ok (.invokestatic 90, 3) := by decide +kernel
theorem dX6_isFormula_13 : decode cX6_isFormula 13 = .ok (.ireturn, 1) := by decide +kernel
theorem dX6_hasTwo_0 : decode cX6_hasTwo 0 = .ok (.iload_n 0, 1) := by decide +kernel
theorem dX6_hasTwo_1 : decode cX6_hasTwo 1 = .ok (.iconst 1, 1) := by decide +kernel
theorem dX6_hasTwo_2 : decode cX6_hasTwo 2 = .ok (.if_icmp .le 19, 3) := by decide +kernel
theorem dX6_hasTwo_5 : decode cX6_hasTwo 5 = .ok (.iload_n 0, 1) := by decide +kernel
theorem dX6_hasTwo_6 : decode cX6_hasTwo 6 = .ok (.bipush 6, 2) := by decide +kernel
theorem dX6_hasTwo_8 : decode cX6_hasTwo 8 = .ok (.if_icmp .eq 13, 3) := by decide +kernel
theorem dX6_hasTwo_11 : decode cX6_hasTwo 11 = .ok (.iload_n 0, 1) := by decide +kernel
theorem dX6_hasTwo_12 : decode cX6_hasTwo 12 = .ok (.bipush 11, 2) := by decide +kernel
theorem dX6_hasTwo_14 : decode cX6_hasTwo 14 = .ok (.if_icmp .eq 7, 3) := by decide +kernel
theorem dX6_hasTwo_17 : decode cX6_hasTwo 17 = .ok (.iconst 1, 1) := by decide +kernel
theorem dX6_hasTwo_18 : decode cX6_hasTwo 18 = .ok (.goto 4, 3) := by decide +kernel
theorem dX6_hasTwo_21 : decode cX6_hasTwo 21 = .ok (.iconst 0, 1) := by decide +kernel
theorem dX6_hasTwo_22 : decode cX6_hasTwo 22 = .ok (.ireturn, 1) := by decide +kernel
theorem dX6_hasOne_0 : decode cX6_hasOne 0 = .ok (.iload_n 0, 1) := by decide +kernel
theorem dX6_hasOne_1 : decode cX6_hasOne 1 = .ok (.iconst 1, 1) := by decide +kernel
theorem dX6_hasOne_2 : decode cX6_hasOne 2 = .ok (.if_icmp .le 7, 3) := by decide +kernel
theorem dX6_hasOne_5 : decode cX6_hasOne 5 = .ok (.iconst 1, 1) := by decide +kernel
theorem dX6_hasOne_6 : decode cX6_hasOne 6 = .ok (.goto 4, 3) := by decide +kernel
theorem dX6_hasOne_9 : decode cX6_hasOne 9 = .ok (.iconst 0, 1) := by decide +kernel
theorem dX6_hasOne_10 : decode cX6_hasOne 10 = .ok (.ireturn, 1) := by decide +kernel
theorem dX6_sizeOf_0 : decode cX6_sizeOf 0 = .ok (.iconst 1, 1) := by decide +kernel
theorem dX6_sizeOf_1 : decode cX6_sizeOf 1 = .ok (.iload_n 1, 1) := by decide +kernel
theorem dX6_sizeOf_2 : decode cX6_sizeOf 2 = .ok (.invokestatic 99, 3) := by decide +kernel
theorem dX6_sizeOf_5 : decode cX6_sizeOf 5 = .ok (.ifCond .eq 12, 3) := by decide +kernel
theorem dX6_sizeOf_8 : decode cX6_sizeOf 8 = .ok (.aload_n 0, 1) := by decide +kernel
theorem dX6_sizeOf_9 : decode cX6_sizeOf 9 = .ok (.getfield 35, 3) := by decide +kernel
theorem dX6_sizeOf_12 : decode cX6_sizeOf 12 = .ok (.iload_n 2, 1) := by decide +kernel
theorem dX6_sizeOf_13 : decode cX6_sizeOf 13 = .ok (.iaload, 1) := by decide +kernel
theorem dX6_sizeOf_14 : decode cX6_sizeOf 14 = .ok (.goto 4, 3) := by decide +kernel
theorem dX6_sizeOf_17 : decode cX6_sizeOf 17 = .ok (.iconst 0, 1) := by decide +kernel
theorem dX6_sizeOf_18 : decode cX6_sizeOf 18 = .ok (.iadd, 1) := by decide +kernel
theorem dX6_sizeOf_19 : decode cX6_sizeOf 19 = .ok (.iload_n 1, 1) := by decide +kernel
theorem dX6_sizeOf_20 : decode cX6_sizeOf 20 = .ok (.invokestatic 103, 3) := by decide +kernel
theorem dX6_sizeOf_23 : decode cX6_sizeOf 23 = .ok (.ifCond .eq 12, 3) := by decide +kernel
theorem dX6_sizeOf_26 : decode cX6_sizeOf 26 = .ok (.aload_n 0, 1) := by decide +kernel
theorem dX6_sizeOf_27 : decode cX6_sizeOf 27 = .ok (.getfield 35, 3) := by decide +kernel
theorem dX6_sizeOf_30 : decode cX6_sizeOf 30 = .ok (.iload_n 3, 1) := by decide +kernel
theorem dX6_sizeOf_31 : decode cX6_sizeOf 31 = .ok (.iaload, 1) := by decide +kernel
theorem dX6_sizeOf_32 : decode cX6_sizeOf 32 = .ok (.goto 4, 3) := by decide +kernel
theorem dX6_sizeOf_35 : decode cX6_sizeOf 35 = .ok (.iconst 0, 1) := by decide +kernel
theorem dX6_sizeOf_36 : decode cX6_sizeOf 36 = .ok (.iadd, 1) := by decide +kernel
theorem dX6_sizeOf_37 : decode cX6_sizeOf 37 = .ok (.ireturn, 1) := by decide +kernel
theorem dX6_tell_0 : decode cX6_tell 0 = .ok (.aload_n 0, 1) := by decide +kernel
theorem dX6_tell_1 : decode cX6_tell 1 = .ok (.getfield 96, 3) := by decide +kernel
theorem dX6_tell_4 : decode cX6_tell 4 = .ok (.istore 4, 2) := by decide +kernel
theorem dX6_tell_6 : decode cX6_tell 6 = .ok (.aload_n 0, 1) := by decide +kernel
theorem dX6_tell_7 : decode cX6_tell 7 = .ok (.getfield 35, 3) := by decide +kernel
theorem dX6_tell_10 : decode cX6_tell 10 = .ok (.iload 4, 2) := by decide +kernel
theorem dX6_tell_12 : decode cX6_tell 12 = .ok (.aload_n 0, 1) := by decide +kernel
theorem dX6_tell_13 : decode cX6_tell 13 = .ok (.iload_n 1, 1) := by decide +kernel
theorem dX6_tell_14 : decode cX6_tell 14 = .ok (.iload_n 2, 1) := by decide +kernel
theorem dX6_tell_15 : decode cX6_tell 15 = .ok (.iload_n 3, 1) := by decide +kernel
theorem dX6_tell_16 : decode cX6_tell 16 = .ok (.invokevirtual 106, 3) := by decide +kernel
theorem dX6_tell_19 : decode cX6_tell 19 = .ok (.iastore, 1) := by decide +kernel
theorem dX6_tell_20 : decode cX6_tell 20 = .ok (.aload_n 0, 1) := by decide +kernel
theorem dX6_tell_21 : decode cX6_tell 21 = .ok (.getfield 19, 3) := by decide +kernel
theorem dX6_tell_24 : decode cX6_tell 24 = .ok (.iload 4, 2) := by decide +kernel
theorem dX6_tell_26 : decode cX6_tell 26 = .ok (.iload_n 1, 1) := by decide +kernel
theorem dX6_tell_27 : decode cX6_tell 27 = .ok (.iastore, 1) := by decide +kernel
theorem dX6_tell_28 : decode cX6_tell 28 = .ok (.aload_n 0, 1) := by decide +kernel
theorem dX6_tell_29 : decode cX6_tell 29 = .ok (.getfield 22, 3) := by decide +kernel
theorem dX6_tell_32 : decode cX6_tell 32 = .ok (.iload 4, 2) := by decide +kernel
theorem dX6_tell_34 : decode cX6_tell 34 = .ok (.iload_n 2, 1) := by decide +kernel
theorem dX6_tell_35 : decode cX6_tell 35 = .ok (.iastore, 1) := by decide +kernel
theorem dX6_tell_36 : decode cX6_tell 36 = .ok (.aload_n 0, 1) := by decide +kernel
theorem dX6_tell_37 : decode cX6_tell 37 = .ok (.getfield 25, 3) := by decide +kernel
theorem dX6_tell_40 : decode cX6_tell 40 = .ok (.iload 4, 2) := by decide +kernel
theorem dX6_tell_42 : decode cX6_tell 42 = .ok (.iload_n 3, 1) := by decide +kernel
theorem dX6_tell_43 : decode cX6_tell 43 = .ok (.iastore, 1) := by decide +kernel
theorem dX6_tell_44 : decode cX6_tell 44 = .ok (.aload_n 0, 1) := by decide +kernel
theorem dX6_tell_45 : decode cX6_tell 45 = .ok (.getfield 28, 3) := by decide +kernel
theorem dX6_tell_48 : decode cX6_tell 48 = .ok (.iload 4, 2) := by decide +kernel
theorem dX6_tell_50 : decode cX6_tell 50 = .ok (.iload_n 1, 1) := by decide +kernel
theorem dX6_tell_51 : decode cX6_tell 51 = .ok (.ifCond .ne 9, 3) := by decide +kernel
theorem dX6_tell_54 : decode cX6_tell 54 = .ok (.iconst 1, 1) := by decide +kernel
theorem dX6_tell_55 : decode cX6_tell 55 = .ok (.iload_n 2, 1) := by decide +kernel
theorem dX6_tell_56 : decode cX6_tell 56 = .ok (.ishl, 1) := by decide +kernel
theorem dX6_tell_57 : decode cX6_tell 57 = .ok (.goto 4, 3) := by decide +kernel
theorem dX6_tell_60 : decode cX6_tell 60 = .ok (.iconst 0, 1) := by decide +kernel
theorem dX6_tell_61 : decode cX6_tell 61 = .ok (.iastore, 1) := by decide +kernel
theorem dX6_tell_62 : decode cX6_tell 62 = .ok (.aload_n 0, 1) := by decide +kernel
theorem dX6_tell_63 : decode cX6_tell 63 = .ok (.getfield 31, 3) := by decide +kernel
theorem dX6_tell_66 : decode cX6_tell 66 = .ok (.iload 4, 2) := by decide +kernel
theorem dX6_tell_68 : decode cX6_tell 68 = .ok (.iload_n 1, 1) := by decide +kernel
theorem dX6_tell_69 : decode cX6_tell 69 = .ok (.iconst 5, 1) := by decide +kernel
theorem dX6_tell_70 : decode cX6_tell 70 = .ok (.if_icmp .eq 9, 3) := by decide +kernel
theorem dX6_tell_73 : decode cX6_tell 73 = .ok (.iload_n 1, 1) := by decide +kernel
theorem dX6_tell_74 : decode cX6_tell 74 = .ok (.bipush 6, 2) := by decide +kernel
theorem dX6_tell_76 : decode cX6_tell 76 = .ok (.if_icmp .ne 7, 3) := by decide +kernel
theorem dX6_tell_79 : decode cX6_tell 79 = .ok (.iconst 1, 1) := by decide +kernel
theorem dX6_tell_80 : decode cX6_tell 80 = .ok (.goto 4, 3) := by decide +kernel
theorem dX6_tell_83 : decode cX6_tell 83 = .ok (.iconst 0, 1) := by decide +kernel
theorem dX6_tell_84 : decode cX6_tell 84 = .ok (.bastore, 1) := by decide +kernel
theorem dX6_tell_85 : decode cX6_tell 85 = .ok (.iload_n 1, 1) := by decide +kernel
theorem dX6_tell_86 : decode cX6_tell 86 = .ok (.invokestatic 99, 3) := by decide +kernel
theorem dX6_tell_89 : decode cX6_tell 89 = .ok (.ifCond .eq 55, 3) := by decide +kernel
theorem dX6_tell_92 : decode cX6_tell 92 = .ok (.aload_n 0, 1) := by decide +kernel
theorem dX6_tell_93 : decode cX6_tell 93 = .ok (.getfield 28, 3) := by decide +kernel
theorem dX6_tell_96 : decode cX6_tell 96 = .ok (.iload 4, 2) := by decide +kernel
theorem dX6_tell_98 : decode cX6_tell 98 = .ok (.aload_n 0, 1) := by decide +kernel
theorem dX6_tell_99 : decode cX6_tell 99 = .ok (.getfield 28, 3) := by decide +kernel
theorem dX6_tell_102 : decode cX6_tell 102 = .ok (.iload 4, 2) := by decide +kernel
theorem dX6_tell_104 : decode cX6_tell 104 = .ok (.iaload, 1) := by decide +kernel
theorem dX6_tell_105 : decode cX6_tell 105 = .ok (.aload_n 0, 1) := by decide +kernel
theorem dX6_tell_106 : decode cX6_tell 106 = .ok (.getfield 28, 3) := by decide +kernel
theorem dX6_tell_109 : decode cX6_tell 109 = .ok (.iload_n 2, 1) := by decide +kernel
theorem dX6_tell_110 : decode cX6_tell 110 = .ok (.iaload, 1) := by decide +kernel
theorem dX6_tell_111 : decode cX6_tell 111 = .ok (.ior, 1) := by decide +kernel
theorem dX6_tell_112 : decode cX6_tell 112 = .ok (.iastore, 1) := by decide +kernel
theorem dX6_tell_113 : decode cX6_tell 113 = .ok (.aload_n 0, 1) := by decide +kernel
theorem dX6_tell_114 : decode cX6_tell 114 = .ok (.getfield 31, 3) := by decide +kernel
theorem dX6_tell_117 : decode cX6_tell 117 = .ok (.iload 4, 2) := by decide +kernel
theorem dX6_tell_119 : decode cX6_tell 119 = .ok (.aload_n 0, 1) := by decide +kernel
theorem dX6_tell_120 : decode cX6_tell 120 = .ok (.getfield 31, 3) := by decide +kernel
theorem dX6_tell_123 : decode cX6_tell 123 = .ok (.iload 4, 2) := by decide +kernel
theorem dX6_tell_125 : decode cX6_tell 125 = .ok (.baload, 1) := by decide +kernel
theorem dX6_tell_126 : decode cX6_tell 126 = .ok (.ifCond .ne 12, 3) := by decide +kernel
theorem dX6_tell_129 : decode cX6_tell 129 = .ok (.aload_n 0, 1) := by decide +kernel
theorem dX6_tell_130 : decode cX6_tell 130 = .ok (.getfield 31, 3) := by decide +kernel
theorem dX6_tell_133 : decode cX6_tell 133 = .ok (.iload_n 2, 1) := by decide +kernel
theorem dX6_tell_134 : decode cX6_tell 134 = .ok (.baload, 1) := by decide +kernel
theorem dX6_tell_135 : decode cX6_tell 135 = .ok (.ifCond .eq 7, 3) := by decide +kernel
theorem dX6_tell_138 : decode cX6_tell 138 = .ok (.iconst 1, 1) := by decide +kernel
theorem dX6_tell_139 : decode cX6_tell 139 = .ok (.goto 4, 3) := by decide +kernel
theorem dX6_tell_142 : decode cX6_tell 142 = .ok (.iconst 0, 1) := by decide +kernel
theorem dX6_tell_143 : decode cX6_tell 143 = .ok (.bastore, 1) := by decide +kernel
theorem dX6_tell_144 : decode cX6_tell 144 = .ok (.iload_n 1, 1) := by decide +kernel
theorem dX6_tell_145 : decode cX6_tell 145 = .ok (.invokestatic 103, 3) := by decide +kernel
theorem dX6_tell_148 : decode cX6_tell 148 = .ok (.ifCond .eq 55, 3) := by decide +kernel
theorem dX6_tell_151 : decode cX6_tell 151 = .ok (.aload_n 0, 1) := by decide +kernel
theorem dX6_tell_152 : decode cX6_tell 152 = .ok (.getfield 28, 3) := by decide +kernel
theorem dX6_tell_155 : decode cX6_tell 155 = .ok (.iload 4, 2) := by decide +kernel
theorem dX6_tell_157 : decode cX6_tell 157 = .ok (.aload_n 0, 1) := by decide +kernel
theorem dX6_tell_158 : decode cX6_tell 158 = .ok (.getfield 28, 3) := by decide +kernel
theorem dX6_tell_161 : decode cX6_tell 161 = .ok (.iload 4, 2) := by decide +kernel
theorem dX6_tell_163 : decode cX6_tell 163 = .ok (.iaload, 1) := by decide +kernel
theorem dX6_tell_164 : decode cX6_tell 164 = .ok (.aload_n 0, 1) := by decide +kernel
theorem dX6_tell_165 : decode cX6_tell 165 = .ok (.getfield 28, 3) := by decide +kernel
theorem dX6_tell_168 : decode cX6_tell 168 = .ok (.iload_n 3, 1) := by decide +kernel
theorem dX6_tell_169 : decode cX6_tell 169 = .ok (.iaload, 1) := by decide +kernel
theorem dX6_tell_170 : decode cX6_tell 170 = .ok (.ior, 1) := by decide +kernel
theorem dX6_tell_171 : decode cX6_tell 171 = .ok (.iastore, 1) := by decide +kernel
theorem dX6_tell_172 : decode cX6_tell 172 = .ok (.aload_n 0, 1) := by decide +kernel
theorem dX6_tell_173 : decode cX6_tell 173 = .ok (.getfield 31, 3) := by decide +kernel
theorem dX6_tell_176 : decode cX6_tell 176 = .ok (.iload 4, 2) := by decide +kernel
theorem dX6_tell_178 : decode cX6_tell 178 = .ok (.aload_n 0, 1) := by decide +kernel
theorem dX6_tell_179 : decode cX6_tell 179 = .ok (.getfield 31, 3) := by decide +kernel
theorem dX6_tell_182 : decode cX6_tell 182 = .ok (.iload 4, 2) := by decide +kernel
theorem dX6_tell_184 : decode cX6_tell 184 = .ok (.baload, 1) := by decide +kernel
theorem dX6_tell_185 : decode cX6_tell 185 = .ok (.ifCond .ne 12, 3) := by decide +kernel
theorem dX6_tell_188 : decode cX6_tell 188 = .ok (.aload_n 0, 1) := by decide +kernel
theorem dX6_tell_189 : decode cX6_tell 189 = .ok (.getfield 31, 3) := by decide +kernel
theorem dX6_tell_192 : decode cX6_tell 192 = .ok (.iload_n 3, 1) := by decide +kernel
theorem dX6_tell_193 : decode cX6_tell 193 = .ok (.baload, 1) := by decide +kernel
theorem dX6_tell_194 : decode cX6_tell 194 = .ok (.ifCond .eq 7, 3) := by decide +kernel
theorem dX6_tell_197 : decode cX6_tell 197 = .ok (.iconst 1, 1) := by decide +kernel
theorem dX6_tell_198 : decode cX6_tell 198 = .ok (.goto 4, 3) := by decide +kernel
theorem dX6_tell_201 : decode cX6_tell 201 = .ok (.iconst 0, 1) := by decide +kernel
theorem dX6_tell_202 : decode cX6_tell 202 = .ok (.bastore, 1) := by decide +kernel
theorem dX6_tell_203 : decode cX6_tell 203 = .ok (.aload_n 0, 1) := by decide +kernel
theorem dX6_tell_204 : decode cX6_tell 204 = .ok (.dup, 1) := by decide +kernel
theorem dX6_tell_205 : decode cX6_tell 205 = .ok (.getfield 96, 3) := by decide +kernel
theorem dX6_tell_208 : decode cX6_tell 208 = .ok (.iconst 1, 1) := by decide +kernel
theorem dX6_tell_209 : decode cX6_tell 209 = .ok (.iadd, 1) := by decide +kernel
theorem dX6_tell_210 : decode cX6_tell 210 = .ok (.putfield 96, 3) := by decide +kernel
theorem dX6_tell_213 : decode cX6_tell 213 = .ok (.iload 4, 2) := by decide +kernel
theorem dX6_tell_215 : decode cX6_tell 215 = .ok (.ireturn, 1) := by decide +kernel
theorem dX6_formula_0 : decode cX6_formula 0 = .ok (.iload_n 1, 1) := by decide +kernel
theorem dX6_formula_1 : decode cX6_formula 1 = .ok (.i2l, 1) := by decide +kernel
theorem dX6_formula_2 : decode cX6_formula 2 = .ok (.lconst 0, 1) := by decide +kernel
theorem dX6_formula_3 : decode cX6_formula 3 = .ok (.ldc2_w 110, 3) := by decide +kernel
theorem dX6_formula_6 : decode cX6_formula 6 = .ok (.invokestatic 90, 3) := by decide +kernel
theorem dX6_formula_9 : decode cX6_formula 9 = .ok (.ifCond .eq 49, 3) := by decide +kernel
theorem dX6_formula_12 : decode cX6_formula 12 = .ok (.iload_n 1, 1) := by decide +kernel
theorem dX6_formula_13 : decode cX6_formula 13 = .ok (.ifCond .ne 15, 3) := by decide +kernel
theorem dX6_formula_16 : decode cX6_formula 16 = .ok (.iload_n 2, 1) := by decide +kernel
theorem dX6_formula_17 : decode cX6_formula 17 = .ok (.i2l, 1) := by decide +kernel
theorem dX6_formula_18 : decode cX6_formula 18 = .ok (.lconst 0, 1) := by decide +kernel
theorem dX6_formula_19 : decode cX6_formula 19 = .ok (.ldc2_w 112, 3) := by decide +kernel
theorem dX6_formula_22 : decode cX6_formula 22 = .ok (.invokestatic 90, 3) := by decide +kernel
theorem dX6_formula_25 : decode cX6_formula 25 = .ok (.ifCond .eq 33, 3) := by decide +kernel
theorem dX6_formula_28 : decode cX6_formula 28 = .ok (.iload_n 1, 1) := by decide +kernel
theorem dX6_formula_29 : decode cX6_formula 29 = .ok (.invokestatic 99, 3) := by decide +kernel
theorem dX6_formula_32 : decode cX6_formula 32 = .ok (.ifCond .eq 11, 3) := by decide +kernel
theorem dX6_formula_35 : decode cX6_formula 35 = .ok (.aload_n 0, 1) := by decide +kernel
theorem dX6_formula_36 : decode cX6_formula 36 = .ok (.iload_n 2, 1) := by decide +kernel
theorem dX6_formula_37 : decode cX6_formula 37 = .ok (.invokevirtual 114, 3) := by decide +kernel
theorem dX6_formula_40 : decode cX6_formula 40 = .ok (.ifCond .eq 18, 3) := by decide +kernel
theorem dX6_formula_43 : decode cX6_formula 43 = .ok (.iload_n 1, 1) := by decide +kernel
theorem dX6_formula_44 : decode cX6_formula 44 = .ok (.invokestatic 103, 3) := by decide +kernel
theorem dX6_formula_47 : decode cX6_formula 47 = .ok (.ifCond .eq 13, 3) := by decide +kernel
theorem dX6_formula_50 : decode cX6_formula 50 = .ok (.aload_n 0, 1) := by decide +kernel
theorem dX6_formula_51 : decode cX6_formula 51 = .ok (.iload_n 3, 1) := by decide +kernel
theorem dX6_formula_52 : decode cX6_formula 52 = .ok (.invokevirtual 114, 3) := by decide +kernel
theorem dX6_formula_55 : decode cX6_formula 55 = .ok (.ifCond .ne 5, 3) := by decide +kernel
theorem dX6_formula_58 : decode cX6_formula 58 = .ok (.iconst (-1), 1) := by decide +kernel
theorem dX6_formula_59 : decode cX6_formula 59 = .ok (.ireturn, 1) := by decide +kernel
theorem dX6_formula_60 : decode cX6_formula 60 = .ok (.aload_n 0, 1) := by decide +kernel
theorem dX6_formula_61 : decode cX6_formula 61 = .ok (.getfield 96, 3) := by decide +kernel
theorem dX6_formula_64 : decode cX6_formula 64 = .ok (.bipush 40, 2) := by decide +kernel
theorem dX6_formula_66 : decode cX6_formula 66 = .ok (.if_icmp .eq 15, 3) := by decide +kernel
theorem dX6_formula_69 : decode cX6_formula 69 = .ok (.aload_n 0, 1) := by decide +kernel
theorem dX6_formula_70 : decode cX6_formula 70 = .ok (.iload_n 1, 1) := by decide +kernel
theorem dX6_formula_71 : decode cX6_formula 71 = .ok (.iload_n 2, 1) := by decide +kernel
theorem dX6_formula_72 : decode cX6_formula 72 = .ok (.iload_n 3, 1) := by decide +kernel
theorem dX6_formula_73 : decode cX6_formula 73 = .ok (.invokevirtual 106, 3) := by decide +kernel
theorem dX6_formula_76 : decode cX6_formula 76 = .ok (.bipush 30, 2) := by decide +kernel
theorem dX6_formula_78 : decode cX6_formula 78 = .ok (.if_icmp .le 6, 3) := by decide +kernel
theorem dX6_formula_81 : decode cX6_formula 81 = .ok (.bipush (-2), 2) := by decide +kernel
theorem dX6_formula_83 : decode cX6_formula 83 = .ok (.ireturn, 1) := by decide +kernel
theorem dX6_formula_84 : decode cX6_formula 84 = .ok (.aload_n 0, 1) := by decide +kernel
theorem dX6_formula_85 : decode cX6_formula 85 = .ok (.iload_n 1, 1) := by decide +kernel
theorem dX6_formula_86 : decode cX6_formula 86 = .ok (.iload_n 2, 1) := by decide +kernel
theorem dX6_formula_87 : decode cX6_formula 87 = .ok (.iload_n 3, 1) := by decide +kernel
theorem dX6_formula_88 : decode cX6_formula 88 = .ok (.invokevirtual 117, 3) := by decide +kernel
theorem dX6_formula_91 : decode cX6_formula 91 = .ok (.ireturn, 1) := by decide +kernel
theorem dX6_formulaOf_0 : decode cX6_formulaOf 0 = .ok (.aload_n 0, 1) := by decide +kernel
theorem dX6_formulaOf_1 : decode cX6_formulaOf 1 = .ok (.iload_n 1, 1) := by decide +kernel
theorem dX6_formulaOf_2 : decode cX6_formulaOf 2 = .ok (.invokevirtual 114, 3) := by decide +kernel
theorem dX6_formulaOf_5 : decode cX6_formulaOf 5 = .ok (.ifCond .eq 13, 3) := by decide +kernel
theorem dX6_formulaOf_8 : decode cX6_formulaOf 8 = .ok (.iload_n 2, 1) := by decide +kernel
theorem dX6_formulaOf_9 : decode cX6_formulaOf 9 = .ok (.i2l, 1) := by decide +kernel
theorem dX6_formulaOf_10 : decode cX6_formulaOf 10 = .ok (.lconst 0, 1) := by decide +kernel
theorem dX6_formulaOf_11 : decode cX6_formulaOf 11 = .ok (.lconst 1, 1) := by decide +kernel
theorem dX6_formulaOf_12 : decode cX6_formulaOf 12 = .ok (.invokestatic 90, 3) := by decide +kernel
theorem dX6_formulaOf_15 : decode cX6_formulaOf 15 = .ok (.ifCond .ne 5, 3) := by decide +kernel
theorem dX6_formulaOf_18 : decode cX6_formulaOf 18 = .ok (.iconst (-1), 1) := by decide +kernel
theorem dX6_formulaOf_19 : decode cX6_formulaOf 19 = .ok (.ireturn, 1) := by decide +kernel
theorem dX6_formulaOf_20 : decode cX6_formulaOf 20 = .ok (.iload_n 2, 1) := by decide +kernel
theorem dX6_formulaOf_21 : decode cX6_formulaOf 21 = .ok (.ifCond .ne 12, 3) := by decide +kernel
theorem dX6_formulaOf_24 : decode cX6_formulaOf 24 = .ok (.aload_n 0, 1) := by decide +kernel
theorem dX6_formulaOf_25 : decode cX6_formulaOf 25 = .ok (.getfield 28, 3) := by decide +kernel
theorem dX6_formulaOf_28 : decode cX6_formulaOf 28 = .ok (.iload_n 1, 1) := by decide +kernel
theorem dX6_formulaOf_29 : decode cX6_formulaOf 29 = .ok (.iaload, 1) := by decide +kernel
theorem dX6_formulaOf_30 : decode cX6_formulaOf 30 = .ok (.goto 17, 3) := by decide +kernel
theorem dX6_formulaOf_33 : decode cX6_formulaOf 33 = .ok (.aload_n 0, 1) := by decide +kernel
theorem dX6_formulaOf_34 : decode cX6_formulaOf 34 = .ok (.getfield 31, 3) := by decide +kernel
theorem dX6_formulaOf_37 : decode cX6_formulaOf 37 = .ok (.iload_n 1, 1) := by decide +kernel
theorem dX6_formulaOf_38 : decode cX6_formulaOf 38 = .ok (.baload, 1) := by decide +kernel
theorem dX6_formulaOf_39 : decode cX6_formulaOf 39 = .ok (.ifCond .eq 7, 3) := by decide +kernel
theorem dX6_formulaOf_42 : decode cX6_formulaOf 42 = .ok (.iconst 1, 1) := by decide +kernel
theorem dX6_formulaOf_43 : decode cX6_formulaOf 43 = .ok (.goto 4, 3) := by decide +kernel
theorem dX6_formulaOf_46 : decode cX6_formulaOf 46 = .ok (.iconst 0, 1) := by decide +kernel
theorem dX6_formulaOf_47 : decode cX6_formulaOf 47 = .ok (.ireturn, 1) := by decide +kernel
theorem dX6_isNode_0 : decode cX6_isNode 0 = .ok (.iload_n 1, 1) := by decide +kernel
theorem dX6_isNode_1 : decode cX6_isNode 1 = .ok (.i2l, 1) := by decide +kernel
theorem dX6_isNode_2 : decode cX6_isNode 2 = .ok (.lconst 0, 1) := by decide +kernel
theorem dX6_isNode_3 : decode cX6_isNode 3 = .ok (.aload_n 0, 1) := by decide +kernel
theorem dX6_isNode_4 : decode cX6_isNode 4 = .ok (.getfield 120, 3) := by decide +kernel
theorem dX6_isNode_7 : decode cX6_isNode 7 = .ok (.iconst 1, 1) := by decide +kernel
theorem dX6_isNode_8 : decode cX6_isNode 8 = .ok (.isub, 1) := by decide +kernel
theorem dX6_isNode_9 : decode cX6_isNode 9 = .ok (.i2l, 1) := by decide +kernel
theorem dX6_isNode_10 : decode cX6_isNode 10 = .ok (.invokestatic 90, 3) := by decide +kernel
theorem dX6_isNode_13 : decode cX6_isNode 13 = .ok (.ireturn, 1) := by decide +kernel
theorem dX6_isTwo_0 : decode cX6_isTwo 0 = .ok (.iload_n 0, 1) := by decide +kernel
theorem dX6_isTwo_1 : decode cX6_isTwo 1 = .ok (.iconst 4, 1) := by decide +kernel
theorem dX6_isTwo_2 : decode cX6_isTwo 2 = .ok (.if_icmp .eq 8, 3) := by decide +kernel
theorem dX6_isTwo_5 : decode cX6_isTwo 5 = .ok (.iload_n 0, 1) := by decide +kernel
theorem dX6_isTwo_6 : decode cX6_isTwo 6 = .ok (.iconst 5, 1) := by decide +kernel
theorem dX6_isTwo_7 : decode cX6_isTwo 7 = .ok (.if_icmp .ne 7, 3) := by decide +kernel
theorem dX6_isTwo_10 : decode cX6_isTwo 10 = .ok (.iconst 1, 1) := by decide +kernel
theorem dX6_isTwo_11 : decode cX6_isTwo 11 = .ok (.goto 4, 3) := by decide +kernel
theorem dX6_isTwo_14 : decode cX6_isTwo 14 = .ok (.iconst 0, 1) := by decide +kernel
theorem dX6_isTwo_15 : decode cX6_isTwo 15 = .ok (.ireturn, 1) := by decide +kernel
theorem dX6_hasMember_0 : decode cX6_hasMember 0 = .ok (.iload_n 0, 1) := by decide +kernel
theorem dX6_hasMember_1 : decode cX6_hasMember 1 = .ok (.iconst 2, 1) := by decide +kernel
theorem dX6_hasMember_2 : decode cX6_hasMember 2 = .ok (.if_icmp .eq 14, 3) := by decide +kernel
theorem dX6_hasMember_5 : decode cX6_hasMember 5 = .ok (.iload_n 0, 1) := by decide +kernel
theorem dX6_hasMember_6 : decode cX6_hasMember 6 = .ok (.iconst 4, 1) := by decide +kernel
theorem dX6_hasMember_7 : decode cX6_hasMember 7 = .ok (.if_icmp .eq 9, 3) := by decide +kernel
theorem dX6_hasMember_10 : decode cX6_hasMember 10 = .ok (.iload_n 0, 1) := by decide +kernel
theorem dX6_hasMember_11 : decode cX6_hasMember 11 = .ok (.bipush 6, 2) := by decide +kernel
theorem dX6_hasMember_13 : decode cX6_hasMember 13 = .ok (.if_icmp .ne 7, 3) := by decide +kernel
theorem dX6_hasMember_16 : decode cX6_hasMember 16 = .ok (.iconst 1, 1) := by decide +kernel
theorem dX6_hasMember_17 : decode cX6_hasMember 17 = .ok (.goto 4, 3) := by decide +kernel
theorem dX6_hasMember_20 : decode cX6_hasMember 20 = .ok (.iconst 0, 1) := by decide +kernel
theorem dX6_hasMember_21 : decode cX6_hasMember 21 = .ok (.ireturn, 1) := by decide +kernel
theorem dX6_hasNumber_0 : decode cX6_hasNumber 0 = .ok (.iload_n 0, 1) := by decide +kernel
theorem dX6_hasNumber_1 : decode cX6_hasNumber 1 = .ok (.i2l, 1) := by decide +kernel
theorem dX6_hasNumber_2 : decode cX6_hasNumber 2 = .ok (.lconst 1, 1) := by decide +kernel
theorem dX6_hasNumber_3 : decode cX6_hasNumber 3 = .ok (.ldc2_w 123, 3) := by decide +kernel
theorem dX6_hasNumber_6 : decode cX6_hasNumber 6 = .ok (.invokestatic 90, 3) := by decide +kernel
theorem dX6_hasNumber_9 : decode cX6_hasNumber 9 = .ok (.ifCond .ne 15, 3) := by decide +kernel
theorem dX6_hasNumber_12 : decode cX6_hasNumber 12 = .ok (.iload_n 0, 1) := by decide +kernel
theorem dX6_hasNumber_13 : decode cX6_hasNumber 13 = .ok (.bipush 6, 2) := by decide +kernel
theorem dX6_hasNumber_15 : decode cX6_hasNumber 15 = .ok (.if_icmp .eq 9, 3) := by decide +kernel
theorem dX6_hasNumber_18 : decode cX6_hasNumber 18 = .ok (.iload_n 0, 1) := by decide +kernel
theorem dX6_hasNumber_19 : decode cX6_hasNumber 19 = .ok (.bipush 8, 2) := by decide +kernel
theorem dX6_hasNumber_21 : decode cX6_hasNumber 21 = .ok (.if_icmp .ne 7, 3) := by decide +kernel
theorem dX6_hasNumber_24 : decode cX6_hasNumber 24 = .ok (.iconst 1, 1) := by decide +kernel
theorem dX6_hasNumber_25 : decode cX6_hasNumber 25 = .ok (.goto 4, 3) := by decide +kernel
theorem dX6_hasNumber_28 : decode cX6_hasNumber 28 = .ok (.iconst 0, 1) := by decide +kernel
theorem dX6_hasNumber_29 : decode cX6_hasNumber 29 = .ok (.ireturn, 1) := by decide +kernel
theorem dX6_isRight_0 : decode cX6_isRight 0 = .ok (.iload_n 1, 1) := by decide +kernel
theorem dX6_isRight_1 : decode cX6_isRight 1 = .ok (.tableswitch 96 1 8 #[47, 47, 53, 53, 96, 63, 96, 86], 47) := by decide +kernel
theorem dX6_isRight_48 : decode cX6_isRight 48 = .ok (.aload_n 0, 1) := by decide +kernel
theorem dX6_isRight_49 : decode cX6_isRight 49 = .ok (.iload_n 2, 1) := by decide +kernel
theorem dX6_isRight_50 : decode cX6_isRight 50 = .ok (.invokevirtual 114, 3) := by decide +kernel
theorem dX6_isRight_53 : decode cX6_isRight 53 = .ok (.ireturn, 1) := by decide +kernel
theorem dX6_isRight_54 : decode cX6_isRight 54 = .ok (.iload_n 2, 1) := by decide +kernel
theorem dX6_isRight_55 : decode cX6_isRight 55 = .ok (.i2l, 1) := by decide +kernel
theorem dX6_isRight_56 : decode cX6_isRight 56 = .ok (.lconst 0, 1) := by decide +kernel
theorem dX6_isRight_57 : decode cX6_isRight 57 = .ok (.ldc2_w 125, 3) := by decide +kernel
theorem dX6_isRight_60 : decode cX6_isRight 60 = .ok (.invokestatic 90, 3) := by decide +kernel
theorem dX6_isRight_63 : decode cX6_isRight 63 = .ok (.ireturn, 1) := by decide +kernel
theorem dX6_isRight_64 : decode cX6_isRight 64 = .ok (.iload_n 2, 1) := by decide +kernel
theorem dX6_isRight_65 : decode cX6_isRight 65 = .ok (.i2l, 1) := by decide +kernel
theorem dX6_isRight_66 : decode cX6_isRight 66 = .ok (.lconst 0, 1) := by decide +kernel
theorem dX6_isRight_67 : decode cX6_isRight 67 = .ok (.ldc2_w 112, 3) := by decide +kernel
theorem dX6_isRight_70 : decode cX6_isRight 70 = .ok (.invokestatic 90, 3) := by decide +kernel
theorem dX6_isRight_73 : decode cX6_isRight 73 = .ok (.ifCond .eq 12, 3) := by decide +kernel
theorem dX6_isRight_76 : decode cX6_isRight 76 = .ok (.iload_n 2, 1) := by decide +kernel
theorem dX6_isRight_77 : decode cX6_isRight 77 = .ok (.iload_n 3, 1) := by decide +kernel
theorem dX6_isRight_78 : decode cX6_isRight 78 = .ok (.if_icmp .eq 7, 3) := by decide +kernel
theorem dX6_isRight_81 : decode cX6_isRight 81 = .ok (.iconst 1, 1) := by decide +kernel
theorem dX6_isRight_82 : decode cX6_isRight 82 = .ok (.goto 4, 3) := by decide +kernel
theorem dX6_isRight_85 : decode cX6_isRight 85 = .ok (.iconst 0, 1) := by decide +kernel
theorem dX6_isRight_86 : decode cX6_isRight 86 = .ok (.ireturn, 1) := by decide +kernel
theorem dX6_isRight_87 : decode cX6_isRight 87 = .ok (.iload_n 2, 1) := by decide +kernel
theorem dX6_isRight_88 : decode cX6_isRight 88 = .ok (.i2l, 1) := by decide +kernel
theorem dX6_isRight_89 : decode cX6_isRight 89 = .ok (.lconst 0, 1) := by decide +kernel
theorem dX6_isRight_90 : decode cX6_isRight 90 = .ok (.ldc2_w 127, 3) := by decide +kernel
theorem dX6_isRight_93 : decode cX6_isRight 93 = .ok (.invokestatic 90, 3) := by decide +kernel
theorem dX6_isRight_96 : decode cX6_isRight 96 = .ok (.ireturn, 1) := by decide +kernel
theorem dX6_isRight_97 : decode cX6_isRight 97 = .ok (.iconst 1, 1) := by decide +kernel
theorem dX6_isRight_98 : decode cX6_isRight 98 = .ok (.ireturn, 1) := by decide +kernel
theorem dX6_bound_0 : decode cX6_bound 0 = .ok (.aload_n 0, 1) := by decide +kernel
theorem dX6_bound_1 : decode cX6_bound 1 = .ok (.getfield 38, 3) := by decide +kernel
theorem dX6_bound_4 : decode cX6_bound 4 = .ok (.iload_n 1, 1) := by decide +kernel
theorem dX6_bound_5 : decode cX6_bound 5 = .ok (.iaload, 1) := by decide +kernel
theorem dX6_bound_6 : decode cX6_bound 6 = .ok (.ifCond .ne 8, 3) := by decide +kernel
theorem dX6_bound_9 : decode cX6_bound 9 = .ok (.bipush 6, 2) := by decide +kernel
theorem dX6_bound_11 : decode cX6_bound 11 = .ok (.goto 14, 3) := by decide +kernel
theorem dX6_bound_14 : decode cX6_bound 14 = .ok (.aload_n 0, 1) := by decide +kernel
theorem dX6_bound_15 : decode cX6_bound 15 = .ok (.getfield 53, 3) := by decide +kernel
theorem dX6_bound_18 : decode cX6_bound 18 = .ok (.aload_n 0, 1) := by decide +kernel
theorem dX6_bound_19 : decode cX6_bound 19 = .ok (.getfield 41, 3) := by decide +kernel
theorem dX6_bound_22 : decode cX6_bound 22 = .ok (.iload_n 1, 1) := by decide +kernel
theorem dX6_bound_23 : decode cX6_bound 23 = .ok (.iaload, 1) := by decide +kernel
theorem dX6_bound_24 : decode cX6_bound 24 = .ok (.iaload, 1) := by decide +kernel
theorem dX6_bound_25 : decode cX6_bound 25 = .ok (.istore_n 2, 1) := by decide +kernel
theorem dX6_bound_26 : decode cX6_bound 26 = .ok (.aload_n 0, 1) := by decide +kernel
theorem dX6_bound_27 : decode cX6_bound 27 = .ok (.getfield 38, 3) := by decide +kernel
theorem dX6_bound_30 : decode cX6_bound 30 = .ok (.iload_n 1, 1) := by decide +kernel
theorem dX6_bound_31 : decode cX6_bound 31 = .ok (.iaload, 1) := by decide +kernel
theorem dX6_bound_32 : decode cX6_bound 32 = .ok (.invokestatic 129, 3) := by decide +kernel
theorem dX6_bound_35 : decode cX6_bound 35 = .ok (.ifCond .eq 17, 3) := by decide +kernel
theorem dX6_bound_38 : decode cX6_bound 38 = .ok (.aload_n 0, 1) := by decide +kernel
theorem dX6_bound_39 : decode cX6_bound 39 = .ok (.getfield 53, 3) := by decide +kernel
theorem dX6_bound_42 : decode cX6_bound 42 = .ok (.aload_n 0, 1) := by decide +kernel
theorem dX6_bound_43 : decode cX6_bound 43 = .ok (.getfield 44, 3) := by decide +kernel
theorem dX6_bound_46 : decode cX6_bound 46 = .ok (.iload_n 1, 1) := by decide +kernel
theorem dX6_bound_47 : decode cX6_bound 47 = .ok (.iaload, 1) := by decide +kernel
theorem dX6_bound_48 : decode cX6_bound 48 = .ok (.iaload, 1) := by decide +kernel
theorem dX6_bound_49 : decode cX6_bound 49 = .ok (.goto 4, 3) := by decide +kernel
theorem dX6_bound_52 : decode cX6_bound 52 = .ok (.iconst 0, 1) := by decide +kernel
theorem dX6_bound_53 : decode cX6_bound 53 = .ok (.istore_n 3, 1) := by decide +kernel
theorem dX6_bound_54 : decode cX6_bound 54 = .ok (.iload_n 2, 1) := by decide +kernel
theorem dX6_bound_55 : decode cX6_bound 55 = .ok (.iconst (-1), 1) := by decide +kernel
theorem dX6_bound_56 : decode cX6_bound 56 = .ok (.if_icmp .eq 8, 3) := by decide +kernel
theorem dX6_bound_59 : decode cX6_bound 59 = .ok (.iload_n 3, 1) := by decide +kernel
theorem dX6_bound_60 : decode cX6_bound 60 = .ok (.iconst (-1), 1) := by decide +kernel
theorem dX6_bound_61 : decode cX6_bound 61 = .ok (.if_icmp .ne 5, 3) := by decide +kernel
theorem dX6_bound_64 : decode cX6_bound 64 = .ok (.iconst (-1), 1) := by decide +kernel
theorem dX6_bound_65 : decode cX6_bound 65 = .ok (.ireturn, 1) := by decide +kernel
theorem dX6_bound_66 : decode cX6_bound 66 = .ok (.aload_n 0, 1) := by decide +kernel
theorem dX6_bound_67 : decode cX6_bound 67 = .ok (.getfield 38, 3) := by decide +kernel
theorem dX6_bound_70 : decode cX6_bound 70 = .ok (.iload_n 1, 1) := by decide +kernel
theorem dX6_bound_71 : decode cX6_bound 71 = .ok (.iaload, 1) := by decide +kernel
theorem dX6_bound_72 : decode cX6_bound 72 = .ok (.iconst 4, 1) := by decide +kernel
theorem dX6_bound_73 : decode cX6_bound 73 = .ok (.if_icmp .ne 9, 3) := by decide +kernel
theorem dX6_bound_76 : decode cX6_bound 76 = .ok (.iload_n 2, 1) := by decide +kernel
theorem dX6_bound_77 : decode cX6_bound 77 = .ok (.iload_n 3, 1) := by decide +kernel
theorem dX6_bound_78 : decode cX6_bound 78 = .ok (.imul, 1) := by decide +kernel
theorem dX6_bound_79 : decode cX6_bound 79 = .ok (.goto 50, 3) := by decide +kernel
theorem dX6_bound_82 : decode cX6_bound 82 = .ok (.aload_n 0, 1) := by decide +kernel
theorem dX6_bound_83 : decode cX6_bound 83 = .ok (.getfield 38, 3) := by decide +kernel
theorem dX6_bound_86 : decode cX6_bound 86 = .ok (.iload_n 1, 1) := by decide +kernel
theorem dX6_bound_87 : decode cX6_bound 87 = .ok (.iaload, 1) := by decide +kernel
theorem dX6_bound_88 : decode cX6_bound 88 = .ok (.iconst 5, 1) := by decide +kernel
theorem dX6_bound_89 : decode cX6_bound 89 = .ok (.if_icmp .ne 9, 3) := by decide +kernel
theorem dX6_bound_92 : decode cX6_bound 92 = .ok (.iload_n 2, 1) := by decide +kernel
theorem dX6_bound_93 : decode cX6_bound 93 = .ok (.iload_n 3, 1) := by decide +kernel
theorem dX6_bound_94 : decode cX6_bound 94 = .ok (.iadd, 1) := by decide +kernel
theorem dX6_bound_95 : decode cX6_bound 95 = .ok (.goto 34, 3) := by decide +kernel
theorem dX6_bound_98 : decode cX6_bound 98 = .ok (.aload_n 0, 1) := by decide +kernel
theorem dX6_bound_99 : decode cX6_bound 99 = .ok (.getfield 38, 3) := by decide +kernel
theorem dX6_bound_102 : decode cX6_bound 102 = .ok (.iload_n 1, 1) := by decide +kernel
theorem dX6_bound_103 : decode cX6_bound 103 = .ok (.iaload, 1) := by decide +kernel
theorem dX6_bound_104 : decode cX6_bound 104 = .ok (.bipush 8, 2) := by decide +kernel
theorem dX6_bound_106 : decode cX6_bound 106 = .ok (.if_icmp .ne 22, 3) := by decide +kernel
theorem dX6_bound_109 : decode cX6_bound 109 = .ok (.aload_n 0, 1) := by decide +kernel
theorem dX6_bound_110 : decode cX6_bound 110 = .ok (.getfield 50, 3) := by decide +kernel
theorem dX6_bound_113 : decode cX6_bound 113 = .ok (.iload_n 1, 1) := by decide +kernel
theorem dX6_bound_114 : decode cX6_bound 114 = .ok (.iaload, 1) := by decide +kernel
theorem dX6_bound_115 : decode cX6_bound 115 = .ok (.iload_n 2, 1) := by decide +kernel
theorem dX6_bound_116 : decode cX6_bound 116 = .ok (.if_icmp .ge 12, 3) := by decide +kernel
theorem dX6_bound_119 : decode cX6_bound 119 = .ok (.aload_n 0, 1) := by decide +kernel
theorem dX6_bound_120 : decode cX6_bound 120 = .ok (.getfield 50, 3) := by decide +kernel
theorem dX6_bound_123 : decode cX6_bound 123 = .ok (.iload_n 1, 1) := by decide +kernel
theorem dX6_bound_124 : decode cX6_bound 124 = .ok (.iaload, 1) := by decide +kernel
theorem dX6_bound_125 : decode cX6_bound 125 = .ok (.goto 4, 3) := by decide +kernel
theorem dX6_bound_128 : decode cX6_bound 128 = .ok (.iload_n 2, 1) := by decide +kernel
theorem dX6_bound_129 : decode cX6_bound 129 = .ok (.ireturn, 1) := by decide +kernel
theorem dX6_look_0 : decode cX6_look 0 = .ok (.iconst 0, 1) := by decide +kernel
theorem dX6_look_1 : decode cX6_look 1 = .ok (.istore_n 1, 1) := by decide +kernel
theorem dX6_look_2 : decode cX6_look 2 = .ok (.iload_n 1, 1) := by decide +kernel
theorem dX6_look_3 : decode cX6_look 3 = .ok (.aload_n 0, 1) := by decide +kernel
theorem dX6_look_4 : decode cX6_look 4 = .ok (.getfield 120, 3) := by decide +kernel
theorem dX6_look_7 : decode cX6_look 7 = .ok (.if_icmp .ge 61, 3) := by decide +kernel
theorem dX6_look_10 : decode cX6_look 10 = .ok (.aload_n 0, 1) := by decide +kernel
theorem dX6_look_11 : decode cX6_look 11 = .ok (.getfield 53, 3) := by decide +kernel
theorem dX6_look_14 : decode cX6_look 14 = .ok (.iload_n 1, 1) := by decide +kernel
theorem dX6_look_15 : decode cX6_look 15 = .ok (.iconst (-1), 1) := by decide +kernel
theorem dX6_look_16 : decode cX6_look 16 = .ok (.iastore, 1) := by decide +kernel
theorem dX6_look_17 : decode cX6_look 17 = .ok (.aload_n 0, 1) := by decide +kernel
theorem dX6_look_18 : decode cX6_look 18 = .ok (.getfield 56, 3) := by decide +kernel
theorem dX6_look_21 : decode cX6_look 21 = .ok (.iload_n 1, 1) := by decide +kernel
theorem dX6_look_22 : decode cX6_look 22 = .ok (.aload_n 0, 1) := by decide +kernel
theorem dX6_look_23 : decode cX6_look 23 = .ok (.getfield 38, 3) := by decide +kernel
theorem dX6_look_26 : decode cX6_look 26 = .ok (.iload_n 1, 1) := by decide +kernel
theorem dX6_look_27 : decode cX6_look 27 = .ok (.iaload, 1) := by decide +kernel
theorem dX6_look_28 : decode cX6_look 28 = .ok (.iconst 1, 1) := by decide +kernel
theorem dX6_look_29 : decode cX6_look 29 = .ok (.if_icmp .eq 13, 3) := by decide +kernel
theorem dX6_look_32 : decode cX6_look 32 = .ok (.aload_n 0, 1) := by decide +kernel
theorem dX6_look_33 : decode cX6_look 33 = .ok (.getfield 38, 3) := by decide +kernel
theorem dX6_look_36 : decode cX6_look 36 = .ok (.iload_n 1, 1) := by decide +kernel
theorem dX6_look_37 : decode cX6_look 37 = .ok (.iaload, 1) := by decide +kernel
theorem dX6_look_38 : decode cX6_look 38 = .ok (.iconst 2, 1) := by decide +kernel
theorem dX6_look_39 : decode cX6_look 39 = .ok (.if_icmp .ne 21, 3) := by decide +kernel
theorem dX6_look_42 : decode cX6_look 42 = .ok (.aload_n 0, 1) := by decide +kernel
theorem dX6_look_43 : decode cX6_look 43 = .ok (.getfield 31, 3) := by decide +kernel
theorem dX6_look_46 : decode cX6_look 46 = .ok (.aload_n 0, 1) := by decide +kernel
theorem dX6_look_47 : decode cX6_look 47 = .ok (.getfield 50, 3) := by decide +kernel
theorem dX6_look_50 : decode cX6_look 50 = .ok (.iload_n 1, 1) := by decide +kernel
theorem dX6_look_51 : decode cX6_look 51 = .ok (.iaload, 1) := by decide +kernel
theorem dX6_look_52 : decode cX6_look 52 = .ok (.baload, 1) := by decide +kernel
theorem dX6_look_53 : decode cX6_look 53 = .ok (.ifCond .eq 7, 3) := by decide +kernel
theorem dX6_look_56 : decode cX6_look 56 = .ok (.iconst 1, 1) := by decide +kernel
theorem dX6_look_57 : decode cX6_look 57 = .ok (.goto 4, 3) := by decide +kernel
theorem dX6_look_60 : decode cX6_look 60 = .ok (.iconst 0, 1) := by decide +kernel
theorem dX6_look_61 : decode cX6_look 61 = .ok (.bastore, 1) := by decide +kernel
theorem dX6_look_62 : decode cX6_look 62 = .ok (.iinc 1 1, 3) := by decide +kernel
theorem dX6_look_65 : decode cX6_look 65 = .ok (.goto (-63), 3) := by decide +kernel
theorem dX6_look_68 : decode cX6_look 68 = .ok (.iconst 1, 1) := by decide +kernel
theorem dX6_look_69 : decode cX6_look 69 = .ok (.istore_n 1, 1) := by decide +kernel
theorem dX6_look_70 : decode cX6_look 70 = .ok (.iload_n 1, 1) := by decide +kernel
theorem dX6_look_71 : decode cX6_look 71 = .ok (.ifCond .eq 175, 3) := by decide +kernel
theorem dX6_look_74 : decode cX6_look 74 = .ok (.iconst 0, 1) := by decide +kernel
theorem dX6_look_75 : decode cX6_look 75 = .ok (.istore_n 1, 1) := by decide +kernel
theorem dX6_look_76 : decode cX6_look 76 = .ok (.iconst 0, 1) := by decide +kernel
theorem dX6_look_77 : decode cX6_look 77 = .ok (.istore_n 2, 1) := by decide +kernel
theorem dX6_look_78 : decode cX6_look 78 = .ok (.iload_n 2, 1) := by decide +kernel
theorem dX6_look_79 : decode cX6_look 79 = .ok (.aload_n 0, 1) := by decide +kernel
theorem dX6_look_80 : decode cX6_look 80 = .ok (.getfield 120, 3) := by decide +kernel
theorem dX6_look_83 : decode cX6_look 83 = .ok (.if_icmp .ge 160, 3) := by decide +kernel
theorem dX6_look_86 : decode cX6_look 86 = .ok (.aload_n 0, 1) := by decide +kernel
theorem dX6_look_87 : decode cX6_look 87 = .ok (.getfield 53, 3) := by decide +kernel
theorem dX6_look_90 : decode cX6_look 90 = .ok (.iload_n 2, 1) := by decide +kernel
theorem dX6_look_91 : decode cX6_look 91 = .ok (.iaload, 1) := by decide +kernel
theorem dX6_look_92 : decode cX6_look 92 = .ok (.iconst (-1), 1) := by decide +kernel
theorem dX6_look_93 : decode cX6_look 93 = .ok (.if_icmp .ne 11, 3) := by decide +kernel
theorem dX6_look_96 : decode cX6_look 96 = .ok (.aload_n 0, 1) := by decide +kernel
theorem dX6_look_97 : decode cX6_look 97 = .ok (.iload_n 2, 1) := by decide +kernel
theorem dX6_look_98 : decode cX6_look 98 = .ok (.invokevirtual 132, 3) := by decide +kernel
theorem dX6_look_101 : decode cX6_look 101 = .ok (.goto 4, 3) := by decide +kernel
theorem dX6_look_104 : decode cX6_look 104 = .ok (.iconst (-1), 1) := by decide +kernel
theorem dX6_look_105 : decode cX6_look 105 = .ok (.istore_n 3, 1) := by decide +kernel
theorem dX6_look_106 : decode cX6_look 106 = .ok (.aload_n 0, 1) := by decide +kernel
theorem dX6_look_107 : decode cX6_look 107 = .ok (.getfield 56, 3) := by decide +kernel
theorem dX6_look_110 : decode cX6_look 110 = .ok (.iload_n 2, 1) := by decide +kernel
theorem dX6_look_111 : decode cX6_look 111 = .ok (.baload, 1) := by decide +kernel
theorem dX6_look_112 : decode cX6_look 112 = .ok (.ifCond .ne 56, 3) := by decide +kernel
theorem dX6_look_115 : decode cX6_look 115 = .ok (.aload_n 0, 1) := by decide +kernel
theorem dX6_look_116 : decode cX6_look 116 = .ok (.getfield 38, 3) := by decide +kernel
theorem dX6_look_119 : decode cX6_look 119 = .ok (.iload_n 2, 1) := by decide +kernel
theorem dX6_look_120 : decode cX6_look 120 = .ok (.iaload, 1) := by decide +kernel
theorem dX6_look_121 : decode cX6_look 121 = .ok (.ifCond .eq 17, 3) := by decide +kernel
theorem dX6_look_124 : decode cX6_look 124 = .ok (.aload_n 0, 1) := by decide +kernel
theorem dX6_look_125 : decode cX6_look 125 = .ok (.getfield 56, 3) := by decide +kernel
theorem dX6_look_128 : decode cX6_look 128 = .ok (.aload_n 0, 1) := by decide +kernel
theorem dX6_look_129 : decode cX6_look 129 = .ok (.getfield 41, 3) := by decide +kernel
theorem dX6_look_132 : decode cX6_look 132 = .ok (.iload_n 2, 1) := by decide +kernel
theorem dX6_look_133 : decode cX6_look 133 = .ok (.iaload, 1) := by decide +kernel
theorem dX6_look_134 : decode cX6_look 134 = .ok (.baload, 1) := by decide +kernel
theorem dX6_look_135 : decode cX6_look 135 = .ok (.ifCond .ne 29, 3) := by decide +kernel
theorem dX6_look_138 : decode cX6_look 138 = .ok (.aload_n 0, 1) := by decide +kernel
theorem dX6_look_139 : decode cX6_look 139 = .ok (.getfield 38, 3) := by decide +kernel
theorem dX6_look_142 : decode cX6_look 142 = .ok (.iload_n 2, 1) := by decide +kernel
theorem dX6_look_143 : decode cX6_look 143 = .ok (.iaload, 1) := by decide +kernel
theorem dX6_look_144 : decode cX6_look 144 = .ok (.invokestatic 129, 3) := by decide +kernel
theorem dX6_look_147 : decode cX6_look 147 = .ok (.ifCond .eq 21, 3) := by decide +kernel
theorem dX6_look_150 : decode cX6_look 150 = .ok (.aload_n 0, 1) := by decide +kernel
theorem dX6_look_151 : decode cX6_look 151 = .ok (.getfield 56, 3) := by decide +kernel
theorem dX6_look_154 : decode cX6_look 154 = .ok (.aload_n 0, 1) := by decide +kernel
theorem dX6_look_155 : decode cX6_look 155 = .ok (.getfield 44, 3) := by decide +kernel
theorem dX6_look_158 : decode cX6_look 158 = .ok (.iload_n 2, 1) := by decide +kernel
theorem dX6_look_159 : decode cX6_look 159 = .ok (.iaload, 1) := by decide +kernel
theorem dX6_look_160 : decode cX6_look 160 = .ok (.baload, 1) := by decide +kernel
theorem dX6_look_161 : decode cX6_look 161 = .ok (.ifCond .eq 7, 3) := by decide +kernel
theorem dX6_look_164 : decode cX6_look 164 = .ok (.iconst 1, 1) := by decide +kernel
theorem dX6_look_165 : decode cX6_look 165 = .ok (.goto 4, 3) := by decide +kernel
theorem dX6_look_168 : decode cX6_look 168 = .ok (.iconst 0, 1) := by decide +kernel
theorem dX6_look_169 : decode cX6_look 169 = .ok (.istore 4, 2) := by decide +kernel
theorem dX6_look_171 : decode cX6_look 171 = .ok (.iload_n 1, 1) := by decide +kernel
theorem dX6_look_172 : decode cX6_look 172 = .ok (.ifCond .ne 13, 3) := by decide +kernel
theorem dX6_look_175 : decode cX6_look 175 = .ok (.iload_n 3, 1) := by decide +kernel
theorem dX6_look_176 : decode cX6_look 176 = .ok (.iconst (-1), 1) := by decide +kernel
theorem dX6_look_177 : decode cX6_look 177 = .ok (.if_icmp .ne 8, 3) := by decide +kernel
theorem dX6_look_180 : decode cX6_look 180 = .ok (.iload 4, 2) := by decide +kernel
theorem dX6_look_182 : decode cX6_look 182 = .ok (.ifCond .eq 7, 3) := by decide +kernel
theorem dX6_look_185 : decode cX6_look 185 = .ok (.iconst 1, 1) := by decide +kernel
theorem dX6_look_186 : decode cX6_look 186 = .ok (.goto 4, 3) := by decide +kernel
theorem dX6_look_189 : decode cX6_look 189 = .ok (.iconst 0, 1) := by decide +kernel
theorem dX6_look_190 : decode cX6_look 190 = .ok (.istore_n 1, 1) := by decide +kernel
theorem dX6_look_191 : decode cX6_look 191 = .ok (.aload_n 0, 1) := by decide +kernel
theorem dX6_look_192 : decode cX6_look 192 = .ok (.getfield 53, 3) := by decide +kernel
theorem dX6_look_195 : decode cX6_look 195 = .ok (.iload_n 2, 1) := by decide +kernel
theorem dX6_look_196 : decode cX6_look 196 = .ok (.iload_n 3, 1) := by decide +kernel
theorem dX6_look_197 : decode cX6_look 197 = .ok (.iconst (-1), 1) := by decide +kernel
theorem dX6_look_198 : decode cX6_look 198 = .ok (.if_icmp .eq 7, 3) := by decide +kernel
theorem dX6_look_201 : decode cX6_look 201 = .ok (.iload_n 3, 1) := by decide +kernel
theorem dX6_look_202 : decode cX6_look 202 = .ok (.goto 9, 3) := by decide +kernel
theorem dX6_look_205 : decode cX6_look 205 = .ok (.aload_n 0, 1) := by decide +kernel
theorem dX6_look_206 : decode cX6_look 206 = .ok (.getfield 53, 3) := by decide +kernel
theorem dX6_look_209 : decode cX6_look 209 = .ok (.iload_n 2, 1) := by decide +kernel
theorem dX6_look_210 : decode cX6_look 210 = .ok (.iaload, 1) := by decide +kernel
theorem dX6_look_211 : decode cX6_look 211 = .ok (.iastore, 1) := by decide +kernel
theorem dX6_look_212 : decode cX6_look 212 = .ok (.aload_n 0, 1) := by decide +kernel
theorem dX6_look_213 : decode cX6_look 213 = .ok (.getfield 56, 3) := by decide +kernel
theorem dX6_look_216 : decode cX6_look 216 = .ok (.iload_n 2, 1) := by decide +kernel
theorem dX6_look_217 : decode cX6_look 217 = .ok (.aload_n 0, 1) := by decide +kernel
theorem dX6_look_218 : decode cX6_look 218 = .ok (.getfield 56, 3) := by decide +kernel
theorem dX6_look_221 : decode cX6_look 221 = .ok (.iload_n 2, 1) := by decide +kernel
theorem dX6_look_222 : decode cX6_look 222 = .ok (.baload, 1) := by decide +kernel
theorem dX6_look_223 : decode cX6_look 223 = .ok (.ifCond .ne 8, 3) := by decide +kernel
theorem dX6_look_226 : decode cX6_look 226 = .ok (.iload 4, 2) := by decide +kernel
theorem dX6_look_228 : decode cX6_look 228 = .ok (.ifCond .eq 7, 3) := by decide +kernel
theorem dX6_look_231 : decode cX6_look 231 = .ok (.iconst 1, 1) := by decide +kernel
theorem dX6_look_232 : decode cX6_look 232 = .ok (.goto 4, 3) := by decide +kernel
theorem dX6_look_235 : decode cX6_look 235 = .ok (.iconst 0, 1) := by decide +kernel
theorem dX6_look_236 : decode cX6_look 236 = .ok (.bastore, 1) := by decide +kernel
theorem dX6_look_237 : decode cX6_look 237 = .ok (.iinc 2 1, 3) := by decide +kernel
theorem dX6_look_240 : decode cX6_look 240 = .ok (.goto (-162), 3) := by decide +kernel
theorem dX6_look_243 : decode cX6_look 243 = .ok (.goto (-173), 3) := by decide +kernel
theorem dX6_look_246 : decode cX6_look 246 = .ok (.return_, 1) := by decide +kernel
theorem dX6_lay_0 : decode cX6_lay 0 = .ok (.aload_n 0, 1) := by decide +kernel
theorem dX6_lay_1 : decode cX6_lay 1 = .ok (.getfield 120, 3) := by decide +kernel
theorem dX6_lay_4 : decode cX6_lay 4 = .ok (.istore 6, 2) := by decide +kernel
theorem dX6_lay_6 : decode cX6_lay 6 = .ok (.aload_n 0, 1) := by decide +kernel
theorem dX6_lay_7 : decode cX6_lay 7 = .ok (.iload 6, 2) := by decide +kernel
theorem dX6_lay_9 : decode cX6_lay 9 = .ok (.iload_n 1, 1) := by decide +kernel
theorem dX6_lay_10 : decode cX6_lay 10 = .ok (.iload_n 2, 1) := by decide +kernel
theorem dX6_lay_11 : decode cX6_lay 11 = .ok (.iload_n 3, 1) := by decide +kernel
theorem dX6_lay_12 : decode cX6_lay 12 = .ok (.iload 4, 2) := by decide +kernel
theorem dX6_lay_14 : decode cX6_lay 14 = .ok (.iload 5, 2) := by decide +kernel
theorem dX6_lay_16 : decode cX6_lay 16 = .ok (.invokevirtual 136, 3) := by decide +kernel
theorem dX6_lay_19 : decode cX6_lay 19 = .ok (.aload_n 0, 1) := by decide +kernel
theorem dX6_lay_20 : decode cX6_lay 20 = .ok (.dup, 1) := by decide +kernel
theorem dX6_lay_21 : decode cX6_lay 21 = .ok (.getfield 120, 3) := by decide +kernel
theorem dX6_lay_24 : decode cX6_lay 24 = .ok (.iconst 1, 1) := by decide +kernel
theorem dX6_lay_25 : decode cX6_lay 25 = .ok (.iadd, 1) := by decide +kernel
theorem dX6_lay_26 : decode cX6_lay 26 = .ok (.putfield 120, 3) := by decide +kernel
theorem dX6_lay_29 : decode cX6_lay 29 = .ok (.iload 6, 2) := by decide +kernel
theorem dX6_lay_31 : decode cX6_lay 31 = .ok (.ireturn, 1) := by decide +kernel
theorem dX6_put_0 : decode cX6_put 0 = .ok (.aload_n 0, 1) := by decide +kernel
theorem dX6_put_1 : decode cX6_put 1 = .ok (.getfield 38, 3) := by decide +kernel
theorem dX6_put_4 : decode cX6_put 4 = .ok (.iload_n 1, 1) := by decide +kernel
theorem dX6_put_5 : decode cX6_put 5 = .ok (.iload_n 2, 1) := by decide +kernel
theorem dX6_put_6 : decode cX6_put 6 = .ok (.iastore, 1) := by decide +kernel
theorem dX6_put_7 : decode cX6_put 7 = .ok (.aload_n 0, 1) := by decide +kernel
theorem dX6_put_8 : decode cX6_put 8 = .ok (.getfield 41, 3) := by decide +kernel
theorem dX6_put_11 : decode cX6_put 11 = .ok (.iload_n 1, 1) := by decide +kernel
theorem dX6_put_12 : decode cX6_put 12 = .ok (.iload_n 3, 1) := by decide +kernel
theorem dX6_put_13 : decode cX6_put 13 = .ok (.iastore, 1) := by decide +kernel
theorem dX6_put_14 : decode cX6_put 14 = .ok (.aload_n 0, 1) := by decide +kernel
theorem dX6_put_15 : decode cX6_put 15 = .ok (.getfield 44, 3) := by decide +kernel
theorem dX6_put_18 : decode cX6_put 18 = .ok (.iload_n 1, 1) := by decide +kernel
theorem dX6_put_19 : decode cX6_put 19 = .ok (.iload_n 2, 1) := by decide +kernel
theorem dX6_put_20 : decode cX6_put 20 = .ok (.invokestatic 129, 3) := by decide +kernel
theorem dX6_put_23 : decode cX6_put 23 = .ok (.ifCond .eq 8, 3) := by decide +kernel
theorem dX6_put_26 : decode cX6_put 26 = .ok (.iload 4, 2) := by decide +kernel
theorem dX6_put_28 : decode cX6_put 28 = .ok (.goto 4, 3) := by decide +kernel
theorem dX6_put_31 : decode cX6_put 31 = .ok (.iconst 0, 1) := by decide +kernel
theorem dX6_put_32 : decode cX6_put 32 = .ok (.iastore, 1) := by decide +kernel
theorem dX6_put_33 : decode cX6_put 33 = .ok (.aload_n 0, 1) := by decide +kernel
theorem dX6_put_34 : decode cX6_put 34 = .ok (.getfield 47, 3) := by decide +kernel
theorem dX6_put_37 : decode cX6_put 37 = .ok (.iload_n 1, 1) := by decide +kernel
theorem dX6_put_38 : decode cX6_put 38 = .ok (.iload_n 2, 1) := by decide +kernel
theorem dX6_put_39 : decode cX6_put 39 = .ok (.invokestatic 140, 3) := by decide +kernel
theorem dX6_put_42 : decode cX6_put 42 = .ok (.ifCond .eq 8, 3) := by decide +kernel
theorem dX6_put_45 : decode cX6_put 45 = .ok (.iload 5, 2) := by decide +kernel
theorem dX6_put_47 : decode cX6_put 47 = .ok (.goto 4, 3) := by decide +kernel
theorem dX6_put_50 : decode cX6_put 50 = .ok (.iconst 0, 1) := by decide +kernel
theorem dX6_put_51 : decode cX6_put 51 = .ok (.iastore, 1) := by decide +kernel
theorem dX6_put_52 : decode cX6_put 52 = .ok (.aload_n 0, 1) := by decide +kernel
theorem dX6_put_53 : decode cX6_put 53 = .ok (.getfield 50, 3) := by decide +kernel
theorem dX6_put_56 : decode cX6_put 56 = .ok (.iload_n 1, 1) := by decide +kernel
theorem dX6_put_57 : decode cX6_put 57 = .ok (.iload_n 2, 1) := by decide +kernel
theorem dX6_put_58 : decode cX6_put 58 = .ok (.invokestatic 143, 3) := by decide +kernel
theorem dX6_put_61 : decode cX6_put 61 = .ok (.ifCond .eq 8, 3) := by decide +kernel
theorem dX6_put_64 : decode cX6_put 64 = .ok (.iload 6, 2) := by decide +kernel
theorem dX6_put_66 : decode cX6_put 66 = .ok (.goto 4, 3) := by decide +kernel
theorem dX6_put_69 : decode cX6_put 69 = .ok (.iconst 0, 1) := by decide +kernel
theorem dX6_put_70 : decode cX6_put 70 = .ok (.iastore, 1) := by decide +kernel
theorem dX6_put_71 : decode cX6_put 71 = .ok (.return_, 1) := by decide +kernel
theorem dX6_node_0 : decode cX6_node 0 = .ok (.iload_n 1, 1) := by decide +kernel
theorem dX6_node_1 : decode cX6_node 1 = .ok (.i2l, 1) := by decide +kernel
theorem dX6_node_2 : decode cX6_node 2 = .ok (.lconst 0, 1) := by decide +kernel
theorem dX6_node_3 : decode cX6_node 3 = .ok (.ldc2_w 146, 3) := by decide +kernel
theorem dX6_node_6 : decode cX6_node 6 = .ok (.invokestatic 90, 3) := by decide +kernel
theorem dX6_node_9 : decode cX6_node 9 = .ok (.ifCond .eq 77, 3) := by decide +kernel
theorem dX6_node_12 : decode cX6_node 12 = .ok (.iload_n 1, 1) := by decide +kernel
theorem dX6_node_13 : decode cX6_node 13 = .ok (.ifCond .ne 18, 3) := by decide +kernel
theorem dX6_node_16 : decode cX6_node 16 = .ok (.iload_n 2, 1) := by decide +kernel
theorem dX6_node_17 : decode cX6_node 17 = .ok (.i2l, 1) := by decide +kernel
theorem dX6_node_18 : decode cX6_node 18 = .ok (.lconst 0, 1) := by decide +kernel
theorem dX6_node_19 : decode cX6_node 19 = .ok (.ldc2_w 88, 3) := by decide +kernel
theorem dX6_node_22 : decode cX6_node 22 = .ok (.invokestatic 90, 3) := by decide +kernel
theorem dX6_node_25 : decode cX6_node 25 = .ok (.ifCond .ne 14, 3) := by decide +kernel
theorem dX6_node_28 : decode cX6_node 28 = .ok (.goto 58, 3) := by decide +kernel
theorem dX6_node_31 : decode cX6_node 31 = .ok (.aload_n 0, 1) := by decide +kernel
theorem dX6_node_32 : decode cX6_node 32 = .ok (.iload_n 2, 1) := by decide +kernel
theorem dX6_node_33 : decode cX6_node 33 = .ok (.invokevirtual 148, 3) := by decide +kernel
theorem dX6_node_36 : decode cX6_node 36 = .ok (.ifCond .eq 50, 3) := by decide +kernel
theorem dX6_node_39 : decode cX6_node 39 = .ok (.iload_n 1, 1) := by decide +kernel
theorem dX6_node_40 : decode cX6_node 40 = .ok (.invokestatic 129, 3) := by decide +kernel
theorem dX6_node_43 : decode cX6_node 43 = .ok (.ifCond .eq 11, 3) := by decide +kernel
theorem dX6_node_46 : decode cX6_node 46 = .ok (.aload_n 0, 1) := by decide +kernel
theorem dX6_node_47 : decode cX6_node 47 = .ok (.iload_n 3, 1) := by decide +kernel
theorem dX6_node_48 : decode cX6_node 48 = .ok (.invokevirtual 148, 3) := by decide +kernel
theorem dX6_node_51 : decode cX6_node 51 = .ok (.ifCond .eq 35, 3) := by decide +kernel
theorem dX6_node_54 : decode cX6_node 54 = .ok (.iload_n 1, 1) := by decide +kernel
theorem dX6_node_55 : decode cX6_node 55 = .ok (.invokestatic 140, 3) := by decide +kernel
theorem dX6_node_58 : decode cX6_node 58 = .ok (.ifCond .eq 16, 3) := by decide +kernel
theorem dX6_node_61 : decode cX6_node 61 = .ok (.iload 4, 2) := by decide +kernel
theorem dX6_node_63 : decode cX6_node 63 = .ok (.i2l, 1) := by decide +kernel
theorem dX6_node_64 : decode cX6_node 64 = .ok (.lconst 0, 1) := by decide +kernel
theorem dX6_node_65 : decode cX6_node 65 = .ok (.ldc2_w 112, 3) := by decide +kernel
theorem dX6_node_68 : decode cX6_node 68 = .ok (.invokestatic 90, 3) := by decide +kernel
theorem dX6_node_71 : decode cX6_node 71 = .ok (.ifCond .eq 15, 3) := by decide +kernel
theorem dX6_node_74 : decode cX6_node 74 = .ok (.aload_n 0, 1) := by decide +kernel
theorem dX6_node_75 : decode cX6_node 75 = .ok (.iload_n 1, 1) := by decide +kernel
theorem dX6_node_76 : decode cX6_node 76 = .ok (.iload 5, 2) := by decide +kernel
theorem dX6_node_78 : decode cX6_node 78 = .ok (.iload 4, 2) := by decide +kernel
theorem dX6_node_80 : decode cX6_node 80 = .ok (.invokevirtual 151, 3) := by decide +kernel
theorem dX6_node_83 : decode cX6_node 83 = .ok (.ifCond .ne 5, 3) := by decide +kernel
theorem dX6_node_86 : decode cX6_node 86 = .ok (.iconst (-1), 1) := by decide +kernel
theorem dX6_node_87 : decode cX6_node 87 = .ok (.ireturn, 1) := by decide +kernel
theorem dX6_node_88 : decode cX6_node 88 = .ok (.aload_n 0, 1) := by decide +kernel
theorem dX6_node_89 : decode cX6_node 89 = .ok (.getfield 120, 3) := by decide +kernel
theorem dX6_node_92 : decode cX6_node 92 = .ok (.bipush 60, 2) := by decide +kernel
theorem dX6_node_94 : decode cX6_node 94 = .ok (.if_icmp .ne 6, 3) := by decide +kernel
theorem dX6_node_97 : decode cX6_node 97 = .ok (.bipush (-2), 2) := by decide +kernel
theorem dX6_node_99 : decode cX6_node 99 = .ok (.ireturn, 1) := by decide +kernel
theorem dX6_node_100 : decode cX6_node 100 = .ok (.aload_n 0, 1) := by decide +kernel
theorem dX6_node_101 : decode cX6_node 101 = .ok (.iload_n 1, 1) := by decide +kernel
theorem dX6_node_102 : decode cX6_node 102 = .ok (.iload_n 2, 1) := by decide +kernel
theorem dX6_node_103 : decode cX6_node 103 = .ok (.iload_n 3, 1) := by decide +kernel
theorem dX6_node_104 : decode cX6_node 104 = .ok (.iload 4, 2) := by decide +kernel
theorem dX6_node_106 : decode cX6_node 106 = .ok (.iload 5, 2) := by decide +kernel
theorem dX6_node_108 : decode cX6_node 108 = .ok (.invokevirtual 155, 3) := by decide +kernel
theorem dX6_node_111 : decode cX6_node 111 = .ok (.istore 6, 2) := by decide +kernel
theorem dX6_node_113 : decode cX6_node 113 = .ok (.aload_n 0, 1) := by decide +kernel
theorem dX6_node_114 : decode cX6_node 114 = .ok (.invokevirtual 159, 3) := by decide +kernel
theorem dX6_node_117 : decode cX6_node 117 = .ok (.aload_n 0, 1) := by decide +kernel
theorem dX6_node_118 : decode cX6_node 118 = .ok (.getfield 53, 3) := by decide +kernel
theorem dX6_node_121 : decode cX6_node 121 = .ok (.iload 6, 2) := by decide +kernel
theorem dX6_node_123 : decode cX6_node 123 = .ok (.iaload, 1) := by decide +kernel
theorem dX6_node_124 : decode cX6_node 124 = .ok (.bipush 100, 2) := by decide +kernel
theorem dX6_node_126 : decode cX6_node 126 = .ok (.if_icmp .le 16, 3) := by decide +kernel
theorem dX6_node_129 : decode cX6_node 129 = .ok (.aload_n 0, 1) := by decide +kernel
theorem dX6_node_130 : decode cX6_node 130 = .ok (.dup, 1) := by decide +kernel
theorem dX6_node_131 : decode cX6_node 131 = .ok (.getfield 120, 3) := by decide +kernel
theorem dX6_node_134 : decode cX6_node 134 = .ok (.iconst 1, 1) := by decide +kernel
theorem dX6_node_135 : decode cX6_node 135 = .ok (.isub, 1) := by decide +kernel
theorem dX6_node_136 : decode cX6_node 136 = .ok (.putfield 120, 3) := by decide +kernel
theorem dX6_node_139 : decode cX6_node 139 = .ok (.bipush (-2), 2) := by decide +kernel
theorem dX6_node_141 : decode cX6_node 141 = .ok (.ireturn, 1) := by decide +kernel
theorem dX6_node_142 : decode cX6_node 142 = .ok (.iload 6, 2) := by decide +kernel
theorem dX6_node_144 : decode cX6_node 144 = .ok (.ireturn, 1) := by decide +kernel
theorem dX6_told_0 : decode cX6_told 0 = .ok (.aload_n 0, 1) := by decide +kernel
theorem dX6_told_1 : decode cX6_told 1 = .ok (.iload_n 1, 1) := by decide +kernel
theorem dX6_told_2 : decode cX6_told 2 = .ok (.invokevirtual 148, 3) := by decide +kernel
theorem dX6_told_5 : decode cX6_told 5 = .ok (.ifCond .eq 15, 3) := by decide +kernel
theorem dX6_told_8 : decode cX6_told 8 = .ok (.iload_n 2, 1) := by decide +kernel
theorem dX6_told_9 : decode cX6_told 9 = .ok (.i2l, 1) := by decide +kernel
theorem dX6_told_10 : decode cX6_told 10 = .ok (.lconst 0, 1) := by decide +kernel
theorem dX6_told_11 : decode cX6_told 11 = .ok (.ldc2_w 162, 3) := by decide +kernel
theorem dX6_told_14 : decode cX6_told 14 = .ok (.invokestatic 90, 3) := by decide +kernel
theorem dX6_told_17 : decode cX6_told 17 = .ok (.ifCond .ne 5, 3) := by decide +kernel
theorem dX6_told_20 : decode cX6_told 20 = .ok (.iconst (-1), 1) := by decide +kernel
theorem dX6_told_21 : decode cX6_told 21 = .ok (.ireturn, 1) := by decide +kernel
theorem dX6_told_22 : decode cX6_told 22 = .ok (.aload_n 0, 1) := by decide +kernel
theorem dX6_told_23 : decode cX6_told 23 = .ok (.invokevirtual 159, 3) := by decide +kernel
theorem dX6_told_26 : decode cX6_told 26 = .ok (.iload_n 2, 1) := by decide +kernel
theorem dX6_told_27 : decode cX6_told 27 = .ok (.tableswitch 79 0 5 #[37, 44, 51, 58, 65, 72], 37) := by decide +kernel
theorem dX6_told_64 : decode cX6_told 64 = .ok (.aload_n 0, 1) := by decide +kernel
theorem dX6_told_65 : decode cX6_told 65 = .ok (.getfield 38, 3) := by decide +kernel
theorem dX6_told_68 : decode cX6_told 68 = .ok (.iload_n 1, 1) := by decide +kernel
theorem dX6_told_69 : decode cX6_told 69 = .ok (.iaload, 1) := by decide +kernel
theorem dX6_told_70 : decode cX6_told 70 = .ok (.ireturn, 1) := by decide +kernel
theorem dX6_told_71 : decode cX6_told 71 = .ok (.aload_n 0, 1) := by decide +kernel
theorem dX6_told_72 : decode cX6_told 72 = .ok (.getfield 41, 3) := by decide +kernel
theorem dX6_told_75 : decode cX6_told 75 = .ok (.iload_n 1, 1) := by decide +kernel
theorem dX6_told_76 : decode cX6_told 76 = .ok (.iaload, 1) := by decide +kernel
theorem dX6_told_77 : decode cX6_told 77 = .ok (.ireturn, 1) := by decide +kernel
theorem dX6_told_78 : decode cX6_told 78 = .ok (.aload_n 0, 1) := by decide +kernel
theorem dX6_told_79 : decode cX6_told 79 = .ok (.getfield 44, 3) := by decide +kernel
theorem dX6_told_82 : decode cX6_told 82 = .ok (.iload_n 1, 1) := by decide +kernel
theorem dX6_told_83 : decode cX6_told 83 = .ok (.iaload, 1) := by decide +kernel
theorem dX6_told_84 : decode cX6_told 84 = .ok (.ireturn, 1) := by decide +kernel
theorem dX6_told_85 : decode cX6_told 85 = .ok (.aload_n 0, 1) := by decide +kernel
theorem dX6_told_86 : decode cX6_told 86 = .ok (.getfield 47, 3) := by decide +kernel
theorem dX6_told_89 : decode cX6_told 89 = .ok (.iload_n 1, 1) := by decide +kernel
theorem dX6_told_90 : decode cX6_told 90 = .ok (.iaload, 1) := by decide +kernel
theorem dX6_told_91 : decode cX6_told 91 = .ok (.ireturn, 1) := by decide +kernel
theorem dX6_told_92 : decode cX6_told 92 = .ok (.aload_n 0, 1) := by decide +kernel
theorem dX6_told_93 : decode cX6_told 93 = .ok (.getfield 50, 3) := by decide +kernel
theorem dX6_told_96 : decode cX6_told 96 = .ok (.iload_n 1, 1) := by decide +kernel
theorem dX6_told_97 : decode cX6_told 97 = .ok (.iaload, 1) := by decide +kernel
theorem dX6_told_98 : decode cX6_told 98 = .ok (.ireturn, 1) := by decide +kernel
theorem dX6_told_99 : decode cX6_told 99 = .ok (.aload_n 0, 1) := by decide +kernel
theorem dX6_told_100 : decode cX6_told 100 = .ok (.getfield 53, 3) := by decide +kernel
theorem dX6_told_103 : decode cX6_told 103 = .ok (.iload_n 1, 1) := by decide +kernel
theorem dX6_told_104 : decode cX6_told 104 = .ok (.iaload, 1) := by decide +kernel
theorem dX6_told_105 : decode cX6_told 105 = .ok (.ireturn, 1) := by decide +kernel
theorem dX6_told_106 : decode cX6_told 106 = .ok (.aload_n 0, 1) := by decide +kernel
theorem dX6_told_107 : decode cX6_told 107 = .ok (.getfield 56, 3) := by decide +kernel
theorem dX6_told_110 : decode cX6_told 110 = .ok (.iload_n 1, 1) := by decide +kernel
theorem dX6_told_111 : decode cX6_told 111 = .ok (.baload, 1) := by decide +kernel
theorem dX6_told_112 : decode cX6_told 112 = .ok (.ifCond .eq 7, 3) := by decide +kernel
theorem dX6_told_115 : decode cX6_told 115 = .ok (.iconst 1, 1) := by decide +kernel
theorem dX6_told_116 : decode cX6_told 116 = .ok (.goto 4, 3) := by decide +kernel
theorem dX6_told_119 : decode cX6_told 119 = .ok (.iconst 0, 1) := by decide +kernel
theorem dX6_told_120 : decode cX6_told 120 = .ok (.ireturn, 1) := by decide +kernel
theorem dX6_begins_0 : decode cX6_begins 0 = .ok (.aload_n 0, 1) := by decide +kernel
theorem dX6_begins_1 : decode cX6_begins 1 = .ok (.getfield 59, 3) := by decide +kernel
theorem dX6_begins_4 : decode cX6_begins 4 = .ok (.aload_n 0, 1) := by decide +kernel
theorem dX6_begins_5 : decode cX6_begins 5 = .ok (.getfield 164, 3) := by decide +kernel
theorem dX6_begins_8 : decode cX6_begins 8 = .ok (.iload_n 1, 1) := by decide +kernel
theorem dX6_begins_9 : decode cX6_begins 9 = .ok (.iastore, 1) := by decide +kernel
theorem dX6_begins_10 : decode cX6_begins 10 = .ok (.aload_n 0, 1) := by decide +kernel
theorem dX6_begins_11 : decode cX6_begins 11 = .ok (.getfield 62, 3) := by decide +kernel
theorem dX6_begins_14 : decode cX6_begins 14 = .ok (.aload_n 0, 1) := by decide +kernel
theorem dX6_begins_15 : decode cX6_begins 15 = .ok (.getfield 164, 3) := by decide +kernel
theorem dX6_begins_18 : decode cX6_begins 18 = .ok (.iconst 0, 1) := by decide +kernel
theorem dX6_begins_19 : decode cX6_begins 19 = .ok (.iastore, 1) := by decide +kernel
theorem dX6_begins_20 : decode cX6_begins 20 = .ok (.aload_n 0, 1) := by decide +kernel
theorem dX6_begins_21 : decode cX6_begins 21 = .ok (.dup, 1) := by decide +kernel
theorem dX6_begins_22 : decode cX6_begins 22 = .ok (.getfield 164, 3) := by decide +kernel
theorem dX6_begins_25 : decode cX6_begins 25 = .ok (.iconst 1, 1) := by decide +kernel
theorem dX6_begins_26 : decode cX6_begins 26 = .ok (.iadd, 1) := by decide +kernel
theorem dX6_begins_27 : decode cX6_begins 27 = .ok (.putfield 164, 3) := by decide +kernel
theorem dX6_begins_30 : decode cX6_begins 30 = .ok (.aload_n 0, 1) := by decide +kernel
theorem dX6_begins_31 : decode cX6_begins 31 = .ok (.dup, 1) := by decide +kernel
theorem dX6_begins_32 : decode cX6_begins 32 = .ok (.getfield 167, 3) := by decide +kernel
theorem dX6_begins_35 : decode cX6_begins 35 = .ok (.iconst 1, 1) := by decide +kernel
theorem dX6_begins_36 : decode cX6_begins 36 = .ok (.iadd, 1) := by decide +kernel
theorem dX6_begins_37 : decode cX6_begins 37 = .ok (.putfield 167, 3) := by decide +kernel
theorem dX6_begins_40 : decode cX6_begins 40 = .ok (.return_, 1) := by decide +kernel
theorem dX6_asks_0 : decode cX6_asks 0 = .ok (.aload_n 0, 1) := by decide +kernel
theorem dX6_asks_1 : decode cX6_asks 1 = .ok (.getfield 62, 3) := by decide +kernel
theorem dX6_asks_4 : decode cX6_asks 4 = .ok (.aload_n 0, 1) := by decide +kernel
theorem dX6_asks_5 : decode cX6_asks 5 = .ok (.getfield 164, 3) := by decide +kernel
theorem dX6_asks_8 : decode cX6_asks 8 = .ok (.iconst 1, 1) := by decide +kernel
theorem dX6_asks_9 : decode cX6_asks 9 = .ok (.isub, 1) := by decide +kernel
theorem dX6_asks_10 : decode cX6_asks 10 = .ok (.dup2, 1) := by decide +kernel
theorem dX6_asks_11 : decode cX6_asks 11 = .ok (.iaload, 1) := by decide +kernel
theorem dX6_asks_12 : decode cX6_asks 12 = .ok (.iconst 1, 1) := by decide +kernel
theorem dX6_asks_13 : decode cX6_asks 13 = .ok (.iadd, 1) := by decide +kernel
theorem dX6_asks_14 : decode cX6_asks 14 = .ok (.iastore, 1) := by decide +kernel
theorem dX6_asks_15 : decode cX6_asks 15 = .ok (.aload_n 0, 1) := by decide +kernel
theorem dX6_asks_16 : decode cX6_asks 16 = .ok (.iload_n 1, 1) := by decide +kernel
theorem dX6_asks_17 : decode cX6_asks 17 = .ok (.invokevirtual 170, 3) := by decide +kernel
theorem dX6_asks_20 : decode cX6_asks 20 = .ok (.return_, 1) := by decide +kernel
theorem dX6_gives_0 : decode cX6_gives 0 = .ok (.aload_n 0, 1) := by decide +kernel
theorem dX6_gives_1 : decode cX6_gives 1 = .ok (.iload_n 1, 1) := by decide +kernel
theorem dX6_gives_2 : decode cX6_gives 2 = .ok (.putfield 174, 3) := by decide +kernel
theorem dX6_gives_5 : decode cX6_gives 5 = .ok (.aload_n 0, 1) := by decide +kernel
theorem dX6_gives_6 : decode cX6_gives 6 = .ok (.dup, 1) := by decide +kernel
theorem dX6_gives_7 : decode cX6_gives 7 = .ok (.getfield 164, 3) := by decide +kernel
theorem dX6_gives_10 : decode cX6_gives 10 = .ok (.iconst 1, 1) := by decide +kernel
theorem dX6_gives_11 : decode cX6_gives 11 = .ok (.isub, 1) := by decide +kernel
theorem dX6_gives_12 : decode cX6_gives 12 = .ok (.putfield 164, 3) := by decide +kernel
theorem dX6_gives_15 : decode cX6_gives 15 = .ok (.return_, 1) := by decide +kernel
theorem dX6_goesOn_0 : decode cX6_goesOn 0 = .ok (.aload_n 0, 1) := by decide +kernel
theorem dX6_goesOn_1 : decode cX6_goesOn 1 = .ok (.getfield 164, 3) := by decide +kernel
theorem dX6_goesOn_4 : decode cX6_goesOn 4 = .ok (.iconst 1, 1) := by decide +kernel
theorem dX6_goesOn_5 : decode cX6_goesOn 5 = .ok (.isub, 1) := by decide +kernel
theorem dX6_goesOn_6 : decode cX6_goesOn 6 = .ok (.istore_n 2, 1) := by decide +kernel
theorem dX6_goesOn_7 : decode cX6_goesOn 7 = .ok (.aload_n 0, 1) := by decide +kernel
theorem dX6_goesOn_8 : decode cX6_goesOn 8 = .ok (.getfield 59, 3) := by decide +kernel
theorem dX6_goesOn_11 : decode cX6_goesOn 11 = .ok (.iload_n 2, 1) := by decide +kernel
theorem dX6_goesOn_12 : decode cX6_goesOn 12 = .ok (.iaload, 1) := by decide +kernel
theorem dX6_goesOn_13 : decode cX6_goesOn 13 = .ok (.istore_n 3, 1) := by decide +kernel
theorem dX6_goesOn_14 : decode cX6_goesOn 14 = .ok (.aload_n 0, 1) := by decide +kernel
theorem dX6_goesOn_15 : decode cX6_goesOn 15 = .ok (.getfield 19, 3) := by decide +kernel
theorem dX6_goesOn_18 : decode cX6_goesOn 18 = .ok (.iload_n 3, 1) := by decide +kernel
theorem dX6_goesOn_19 : decode cX6_goesOn 19 = .ok (.iaload, 1) := by decide +kernel
theorem dX6_goesOn_20 : decode cX6_goesOn 20 = .ok (.istore 4, 2) := by decide +kernel
theorem dX6_goesOn_22 : decode cX6_goesOn 22 = .ok (.iload 4, 2) := by decide +kernel
theorem dX6_goesOn_24 : decode cX6_goesOn 24 = .ok (.ifCond .ne 23, 3) := by decide +kernel
theorem dX6_goesOn_27 : decode cX6_goesOn 27 = .ok (.aload_n 0, 1) := by decide +kernel
theorem dX6_goesOn_28 : decode cX6_goesOn 28 = .ok (.aload_n 0, 1) := by decide +kernel
theorem dX6_goesOn_29 : decode cX6_goesOn 29 = .ok (.getfield 69, 3) := by decide +kernel
theorem dX6_goesOn_32 : decode cX6_goesOn 32 = .ok (.iload_n 1, 1) := by decide +kernel
theorem dX6_goesOn_33 : decode cX6_goesOn 33 = .ok (.aload_n 0, 1) := by decide +kernel
theorem dX6_goesOn_34 : decode cX6_goesOn 34 = .ok (.getfield 22, 3) := by decide +kernel
theorem dX6_goesOn_37 : decode cX6_goesOn 37 = .ok (.iload_n 3, 1) := by decide +kernel
theorem dX6_goesOn_38 : decode cX6_goesOn 38 = .ok (.iaload, 1) := by decide +kernel
theorem dX6_goesOn_39 : decode cX6_goesOn 39 = .ok (.iadd, 1) := by decide +kernel
theorem dX6_goesOn_40 : decode cX6_goesOn 40 = .ok (.iaload, 1) := by decide +kernel
theorem dX6_goesOn_41 : decode cX6_goesOn 41 = .ok (.invokevirtual 177, 3) := by decide +kernel
theorem dX6_goesOn_44 : decode cX6_goesOn 44 = .ok (.goto 157, 3) := by decide +kernel
theorem dX6_goesOn_47 : decode cX6_goesOn 47 = .ok (.iload 4, 2) := by decide +kernel
theorem dX6_goesOn_49 : decode cX6_goesOn 49 = .ok (.iconst 1, 1) := by decide +kernel
theorem dX6_goesOn_50 : decode cX6_goesOn 50 = .ok (.if_icmp .ne 16, 3) := by decide +kernel
theorem dX6_goesOn_53 : decode cX6_goesOn 53 = .ok (.aload_n 0, 1) := by decide +kernel
theorem dX6_goesOn_54 : decode cX6_goesOn 54 = .ok (.aload_n 0, 1) := by decide +kernel
theorem dX6_goesOn_55 : decode cX6_goesOn 55 = .ok (.getfield 22, 3) := by decide +kernel
theorem dX6_goesOn_58 : decode cX6_goesOn 58 = .ok (.iload_n 3, 1) := by decide +kernel
theorem dX6_goesOn_59 : decode cX6_goesOn 59 = .ok (.iaload, 1) := by decide +kernel
theorem dX6_goesOn_60 : decode cX6_goesOn 60 = .ok (.invokevirtual 177, 3) := by decide +kernel
theorem dX6_goesOn_63 : decode cX6_goesOn 63 = .ok (.goto 138, 3) := by decide +kernel
theorem dX6_goesOn_66 : decode cX6_goesOn 66 = .ok (.aload_n 0, 1) := by decide +kernel
theorem dX6_goesOn_67 : decode cX6_goesOn 67 = .ok (.getfield 62, 3) := by decide +kernel
theorem dX6_goesOn_70 : decode cX6_goesOn 70 = .ok (.iload_n 2, 1) := by decide +kernel
theorem dX6_goesOn_71 : decode cX6_goesOn 71 = .ok (.iaload, 1) := by decide +kernel
theorem dX6_goesOn_72 : decode cX6_goesOn 72 = .ok (.ifCond .ne 16, 3) := by decide +kernel
theorem dX6_goesOn_75 : decode cX6_goesOn 75 = .ok (.aload_n 0, 1) := by decide +kernel
theorem dX6_goesOn_76 : decode cX6_goesOn 76 = .ok (.aload_n 0, 1) := by decide +kernel
theorem dX6_goesOn_77 : decode cX6_goesOn 77 = .ok (.getfield 22, 3) := by decide +kernel
theorem dX6_goesOn_80 : decode cX6_goesOn 80 = .ok (.iload_n 3, 1) := by decide +kernel
theorem dX6_goesOn_81 : decode cX6_goesOn 81 = .ok (.iaload, 1) := by decide +kernel
theorem dX6_goesOn_82 : decode cX6_goesOn 82 = .ok (.invokevirtual 180, 3) := by decide +kernel
theorem dX6_goesOn_85 : decode cX6_goesOn 85 = .ok (.goto 116, 3) := by decide +kernel
theorem dX6_goesOn_88 : decode cX6_goesOn 88 = .ok (.iload 4, 2) := by decide +kernel
theorem dX6_goesOn_90 : decode cX6_goesOn 90 = .ok (.invokestatic 103, 3) := by decide +kernel
theorem dX6_goesOn_93 : decode cX6_goesOn 93 = .ok (.ifCond .ne 12, 3) := by decide +kernel
theorem dX6_goesOn_96 : decode cX6_goesOn 96 = .ok (.aload_n 0, 1) := by decide +kernel
theorem dX6_goesOn_97 : decode cX6_goesOn 97 = .ok (.iload 4, 2) := by decide +kernel
theorem dX6_goesOn_99 : decode cX6_goesOn 99 = .ok (.invokevirtual 183, 3) := by decide +kernel
theorem dX6_goesOn_102 : decode cX6_goesOn 102 = .ok (.goto 99, 3) := by decide +kernel
theorem dX6_goesOn_105 : decode cX6_goesOn 105 = .ok (.aload_n 0, 1) := by decide +kernel
theorem dX6_goesOn_106 : decode cX6_goesOn 106 = .ok (.getfield 62, 3) := by decide +kernel
theorem dX6_goesOn_109 : decode cX6_goesOn 109 = .ok (.iload_n 2, 1) := by decide +kernel
theorem dX6_goesOn_110 : decode cX6_goesOn 110 = .ok (.iaload, 1) := by decide +kernel
theorem dX6_goesOn_111 : decode cX6_goesOn 111 = .ok (.iconst 1, 1) := by decide +kernel
theorem dX6_goesOn_112 : decode cX6_goesOn 112 = .ok (.if_icmp .ne 73, 3) := by decide +kernel
theorem dX6_goesOn_115 : decode cX6_goesOn 115 = .ok (.aload_n 0, 1) := by decide +kernel
theorem dX6_goesOn_116 : decode cX6_goesOn 116 = .ok (.getfield 65, 3) := by decide +kernel
theorem dX6_goesOn_119 : decode cX6_goesOn 119 = .ok (.iload_n 2, 1) := by decide +kernel
theorem dX6_goesOn_120 : decode cX6_goesOn 120 = .ok (.aload_n 0, 1) := by decide +kernel
theorem dX6_goesOn_121 : decode cX6_goesOn 121 = .ok (.getfield 174, 3) := by decide +kernel
theorem dX6_goesOn_124 : decode cX6_goesOn 124 = .ok (.iastore, 1) := by decide +kernel
theorem dX6_goesOn_125 : decode cX6_goesOn 125 = .ok (.iload 4, 2) := by decide +kernel
theorem dX6_goesOn_127 : decode cX6_goesOn 127 = .ok (.bipush 9, 2) := by decide +kernel
theorem dX6_goesOn_129 : decode cX6_goesOn 129 = .ok (.if_icmp .ne 10, 3) := by decide +kernel
theorem dX6_goesOn_132 : decode cX6_goesOn 132 = .ok (.aload_n 0, 1) := by decide +kernel
theorem dX6_goesOn_133 : decode cX6_goesOn 133 = .ok (.getfield 174, 3) := by decide +kernel
theorem dX6_goesOn_136 : decode cX6_goesOn 136 = .ok (.ifCond .eq 17, 3) := by decide +kernel
theorem dX6_goesOn_139 : decode cX6_goesOn 139 = .ok (.iload 4, 2) := by decide +kernel
theorem dX6_goesOn_141 : decode cX6_goesOn 141 = .ok (.bipush 10, 2) := by decide +kernel
theorem dX6_goesOn_143 : decode cX6_goesOn 143 = .ok (.if_icmp .ne 29, 3) := by decide +kernel
theorem dX6_goesOn_146 : decode cX6_goesOn 146 = .ok (.aload_n 0, 1) := by decide +kernel
theorem dX6_goesOn_147 : decode cX6_goesOn 147 = .ok (.getfield 174, 3) := by decide +kernel
theorem dX6_goesOn_150 : decode cX6_goesOn 150 = .ok (.ifCond .eq 22, 3) := by decide +kernel
theorem dX6_goesOn_153 : decode cX6_goesOn 153 = .ok (.aload_n 0, 1) := by decide +kernel
theorem dX6_goesOn_154 : decode cX6_goesOn 154 = .ok (.iload 4, 2) := by decide +kernel
theorem dX6_goesOn_156 : decode cX6_goesOn 156 = .ok (.bipush 9, 2) := by decide +kernel
theorem dX6_goesOn_158 : decode cX6_goesOn 158 = .ok (.if_icmp .ne 7, 3) := by decide +kernel
theorem dX6_goesOn_161 : decode cX6_goesOn 161 = .ok (.iconst 0, 1) := by decide +kernel
theorem dX6_goesOn_162 : decode cX6_goesOn 162 = .ok (.goto 4, 3) := by decide +kernel
theorem dX6_goesOn_165 : decode cX6_goesOn 165 = .ok (.iconst 1, 1) := by decide +kernel
theorem dX6_goesOn_166 : decode cX6_goesOn 166 = .ok (.invokevirtual 177, 3) := by decide +kernel
theorem dX6_goesOn_169 : decode cX6_goesOn 169 = .ok (.goto 32, 3) := by decide +kernel
theorem dX6_goesOn_172 : decode cX6_goesOn 172 = .ok (.aload_n 0, 1) := by decide +kernel
theorem dX6_goesOn_173 : decode cX6_goesOn 173 = .ok (.aload_n 0, 1) := by decide +kernel
theorem dX6_goesOn_174 : decode cX6_goesOn 174 = .ok (.getfield 25, 3) := by decide +kernel
theorem dX6_goesOn_177 : decode cX6_goesOn 177 = .ok (.iload_n 3, 1) := by decide +kernel
theorem dX6_goesOn_178 : decode cX6_goesOn 178 = .ok (.iaload, 1) := by decide +kernel
theorem dX6_goesOn_179 : decode cX6_goesOn 179 = .ok (.invokevirtual 180, 3) := by decide +kernel
theorem dX6_goesOn_182 : decode cX6_goesOn 182 = .ok (.goto 19, 3) := by decide +kernel
theorem dX6_goesOn_185 : decode cX6_goesOn 185 = .ok (.aload_n 0, 1) := by decide +kernel
theorem dX6_goesOn_186 : decode cX6_goesOn 186 = .ok (.iload 4, 2) := by decide +kernel
theorem dX6_goesOn_188 : decode cX6_goesOn 188 = .ok (.aload_n 0, 1) := by decide +kernel
theorem dX6_goesOn_189 : decode cX6_goesOn 189 = .ok (.getfield 65, 3) := by decide +kernel
theorem dX6_goesOn_192 : decode cX6_goesOn 192 = .ok (.iload_n 2, 1) := by decide +kernel
theorem dX6_goesOn_193 : decode cX6_goesOn 193 = .ok (.iaload, 1) := by decide +kernel
theorem dX6_goesOn_194 : decode cX6_goesOn 194 = .ok (.aload_n 0, 1) := by decide +kernel
theorem dX6_goesOn_195 : decode cX6_goesOn 195 = .ok (.getfield 174, 3) := by decide +kernel
theorem dX6_goesOn_198 : decode cX6_goesOn 198 = .ok (.invokevirtual 186, 3) := by decide +kernel
theorem dX6_goesOn_201 : decode cX6_goesOn 201 = .ok (.return_, 1) := by decide +kernel
theorem dX6_single_0 : decode cX6_single 0 = .ok (.iload_n 1, 1) := by decide +kernel
theorem dX6_single_1 : decode cX6_single 1 = .ok (.bipush 11, 2) := by decide +kernel
theorem dX6_single_3 : decode cX6_single 3 = .ok (.if_icmp .ne 22, 3) := by decide +kernel
theorem dX6_single_6 : decode cX6_single 6 = .ok (.aload_n 0, 1) := by decide +kernel
theorem dX6_single_7 : decode cX6_single 7 = .ok (.aload_n 0, 1) := by decide +kernel
theorem dX6_single_8 : decode cX6_single 8 = .ok (.getfield 174, 3) := by decide +kernel
theorem dX6_single_11 : decode cX6_single 11 = .ok (.ifCond .ne 7, 3) := by decide +kernel
theorem dX6_single_14 : decode cX6_single 14 = .ok (.iconst 1, 1) := by decide +kernel
theorem dX6_single_15 : decode cX6_single 15 = .ok (.goto 4, 3) := by decide +kernel
theorem dX6_single_18 : decode cX6_single 18 = .ok (.iconst 0, 1) := by decide +kernel
theorem dX6_single_19 : decode cX6_single 19 = .ok (.invokevirtual 177, 3) := by decide +kernel
theorem dX6_single_22 : decode cX6_single 22 = .ok (.goto 39, 3) := by decide +kernel
theorem dX6_single_25 : decode cX6_single 25 = .ok (.aload_n 0, 1) := by decide +kernel
theorem dX6_single_26 : decode cX6_single 26 = .ok (.getfield 174, 3) := by decide +kernel
theorem dX6_single_29 : decode cX6_single 29 = .ok (.i2l, 1) := by decide +kernel
theorem dX6_single_30 : decode cX6_single 30 = .ok (.lconst 0, 1) := by decide +kernel
theorem dX6_single_31 : decode cX6_single 31 = .ok (.ldc2_w 94, 3) := by decide +kernel
theorem dX6_single_34 : decode cX6_single 34 = .ok (.invokestatic 90, 3) := by decide +kernel
theorem dX6_single_37 : decode cX6_single 37 = .ok (.ifCond .eq 19, 3) := by decide +kernel
theorem dX6_single_40 : decode cX6_single 40 = .ok (.aload_n 0, 1) := by decide +kernel
theorem dX6_single_41 : decode cX6_single 41 = .ok (.aload_n 0, 1) := by decide +kernel
theorem dX6_single_42 : decode cX6_single 42 = .ok (.getfield 16, 3) := by decide +kernel
theorem dX6_single_45 : decode cX6_single 45 = .ok (.aload_n 0, 1) := by decide +kernel
theorem dX6_single_46 : decode cX6_single 46 = .ok (.getfield 174, 3) := by decide +kernel
theorem dX6_single_49 : decode cX6_single 49 = .ok (.iaload, 1) := by decide +kernel
theorem dX6_single_50 : decode cX6_single 50 = .ok (.invokevirtual 177, 3) := by decide +kernel
theorem dX6_single_53 : decode cX6_single 53 = .ok (.goto 8, 3) := by decide +kernel
theorem dX6_single_56 : decode cX6_single 56 = .ok (.aload_n 0, 1) := by decide +kernel
theorem dX6_single_57 : decode cX6_single 57 = .ok (.iconst 2, 1) := by decide +kernel
theorem dX6_single_58 : decode cX6_single 58 = .ok (.putfield 190, 3) := by decide +kernel
theorem dX6_single_61 : decode cX6_single 61 = .ok (.return_, 1) := by decide +kernel
theorem dX6_both_0 : decode cX6_both 0 = .ok (.iload_n 1, 1) := by decide +kernel
theorem dX6_both_1 : decode cX6_both 1 = .ok (.tableswitch 132 2 8 #[43, 53, 63, 73, 132, 98, 115], 43) := by decide +kernel
theorem dX6_both_44 : decode cX6_both 44 = .ok (.aload_n 0, 1) := by decide +kernel
theorem dX6_both_45 : decode cX6_both 45 = .ok (.iload_n 2, 1) := by decide +kernel
theorem dX6_both_46 : decode cX6_both 46 = .ok (.iload_n 3, 1) := by decide +kernel
theorem dX6_both_47 : decode cX6_both 47 = .ok (.iadd, 1) := by decide +kernel
theorem dX6_both_48 : decode cX6_both 48 = .ok (.invokevirtual 177, 3) := by decide +kernel
theorem dX6_both_51 : decode cX6_both 51 = .ok (.goto 95, 3) := by decide +kernel
theorem dX6_both_54 : decode cX6_both 54 = .ok (.aload_n 0, 1) := by decide +kernel
theorem dX6_both_55 : decode cX6_both 55 = .ok (.iload_n 2, 1) := by decide +kernel
theorem dX6_both_56 : decode cX6_both 56 = .ok (.iload_n 3, 1) := by decide +kernel
theorem dX6_both_57 : decode cX6_both 57 = .ok (.isub, 1) := by decide +kernel
theorem dX6_both_58 : decode cX6_both 58 = .ok (.invokevirtual 177, 3) := by decide +kernel
theorem dX6_both_61 : decode cX6_both 61 = .ok (.goto 85, 3) := by decide +kernel
theorem dX6_both_64 : decode cX6_both 64 = .ok (.aload_n 0, 1) := by decide +kernel
theorem dX6_both_65 : decode cX6_both 65 = .ok (.iload_n 2, 1) := by decide +kernel
theorem dX6_both_66 : decode cX6_both 66 = .ok (.iload_n 3, 1) := by decide +kernel
theorem dX6_both_67 : decode cX6_both 67 = .ok (.imul, 1) := by decide +kernel
theorem dX6_both_68 : decode cX6_both 68 = .ok (.invokevirtual 177, 3) := by decide +kernel
theorem dX6_both_71 : decode cX6_both 71 = .ok (.goto 75, 3) := by decide +kernel
theorem dX6_both_74 : decode cX6_both 74 = .ok (.iload_n 3, 1) := by decide +kernel
theorem dX6_both_75 : decode cX6_both 75 = .ok (.ifCond .ne 11, 3) := by decide +kernel
theorem dX6_both_78 : decode cX6_both 78 = .ok (.aload_n 0, 1) := by decide +kernel
theorem dX6_both_79 : decode cX6_both 79 = .ok (.iconst 1, 1) := by decide +kernel
theorem dX6_both_80 : decode cX6_both 80 = .ok (.putfield 190, 3) := by decide +kernel
theorem dX6_both_83 : decode cX6_both 83 = .ok (.goto 63, 3) := by decide +kernel
theorem dX6_both_86 : decode cX6_both 86 = .ok (.aload_n 0, 1) := by decide +kernel
theorem dX6_both_87 : decode cX6_both 87 = .ok (.iload_n 2, 1) := by decide +kernel
theorem dX6_both_88 : decode cX6_both 88 = .ok (.i2l, 1) := by decide +kernel
theorem dX6_both_89 : decode cX6_both 89 = .ok (.iload_n 3, 1) := by decide +kernel
theorem dX6_both_90 : decode cX6_both 90 = .ok (.i2l, 1) := by decide +kernel
theorem dX6_both_91 : decode cX6_both 91 = .ok (.ldiv, 1) := by decide +kernel
theorem dX6_both_92 : decode cX6_both 92 = .ok (.l2i, 1) := by decide +kernel
theorem dX6_both_93 : decode cX6_both 93 = .ok (.invokevirtual 177, 3) := by decide +kernel
theorem dX6_both_96 : decode cX6_both 96 = .ok (.goto 50, 3) := by decide +kernel
theorem dX6_both_99 : decode cX6_both 99 = .ok (.aload_n 0, 1) := by decide +kernel
theorem dX6_both_100 : decode cX6_both 100 = .ok (.iload_n 2, 1) := by decide +kernel
theorem dX6_both_101 : decode cX6_both 101 = .ok (.iload_n 3, 1) := by decide +kernel
theorem dX6_both_102 : decode cX6_both 102 = .ok (.if_icmp .ge 7, 3) := by decide +kernel
theorem dX6_both_105 : decode cX6_both 105 = .ok (.iconst 1, 1) := by decide +kernel
theorem dX6_both_106 : decode cX6_both 106 = .ok (.goto 4, 3) := by decide +kernel
theorem dX6_both_109 : decode cX6_both 109 = .ok (.iconst 0, 1) := by decide +kernel
theorem dX6_both_110 : decode cX6_both 110 = .ok (.invokevirtual 177, 3) := by decide +kernel
theorem dX6_both_113 : decode cX6_both 113 = .ok (.goto 33, 3) := by decide +kernel
theorem dX6_both_116 : decode cX6_both 116 = .ok (.aload_n 0, 1) := by decide +kernel
theorem dX6_both_117 : decode cX6_both 117 = .ok (.iload_n 2, 1) := by decide +kernel
theorem dX6_both_118 : decode cX6_both 118 = .ok (.iload_n 3, 1) := by decide +kernel
theorem dX6_both_119 : decode cX6_both 119 = .ok (.if_icmp .ne 7, 3) := by decide +kernel
theorem dX6_both_122 : decode cX6_both 122 = .ok (.iconst 1, 1) := by decide +kernel
theorem dX6_both_123 : decode cX6_both 123 = .ok (.goto 4, 3) := by decide +kernel
theorem dX6_both_126 : decode cX6_both 126 = .ok (.iconst 0, 1) := by decide +kernel
theorem dX6_both_127 : decode cX6_both 127 = .ok (.invokevirtual 177, 3) := by decide +kernel
theorem dX6_both_130 : decode cX6_both 130 = .ok (.goto 16, 3) := by decide +kernel
theorem dX6_both_133 : decode cX6_both 133 = .ok (.aload_n 0, 1) := by decide +kernel
theorem dX6_both_134 : decode cX6_both 134 = .ok (.iload_n 3, 1) := by decide +kernel
theorem dX6_both_135 : decode cX6_both 135 = .ok (.ifCond .eq 7, 3) := by decide +kernel
theorem dX6_both_138 : decode cX6_both 138 = .ok (.iconst 1, 1) := by decide +kernel
theorem dX6_both_139 : decode cX6_both 139 = .ok (.goto 4, 3) := by decide +kernel
theorem dX6_both_142 : decode cX6_both 142 = .ok (.iconst 0, 1) := by decide +kernel
theorem dX6_both_143 : decode cX6_both 143 = .ok (.invokevirtual 177, 3) := by decide +kernel
theorem dX6_both_146 : decode cX6_both 146 = .ok (.return_, 1) := by decide +kernel
theorem dX6_work_0 : decode cX6_work 0 = .ok (.aload_n 0, 1) := by decide +kernel
theorem dX6_work_1 : decode cX6_work 1 = .ok (.iconst 0, 1) := by decide +kernel
theorem dX6_work_2 : decode cX6_work 2 = .ok (.putfield 164, 3) := by decide +kernel
theorem dX6_work_5 : decode cX6_work 5 = .ok (.aload_n 0, 1) := by decide +kernel
theorem dX6_work_6 : decode cX6_work 6 = .ok (.iload_n 1, 1) := by decide +kernel
theorem dX6_work_7 : decode cX6_work 7 = .ok (.invokevirtual 170, 3) := by decide +kernel
theorem dX6_work_10 : decode cX6_work 10 = .ok (.aload_n 0, 1) := by decide +kernel
theorem dX6_work_11 : decode cX6_work 11 = .ok (.getfield 164, 3) := by decide +kernel
theorem dX6_work_14 : decode cX6_work 14 = .ok (.ifCond .le 18, 3) := by decide +kernel
theorem dX6_work_17 : decode cX6_work 17 = .ok (.aload_n 0, 1) := by decide +kernel
theorem dX6_work_18 : decode cX6_work 18 = .ok (.getfield 190, 3) := by decide +kernel
theorem dX6_work_21 : decode cX6_work 21 = .ok (.ifCond .ne 11, 3) := by decide +kernel
theorem dX6_work_24 : decode cX6_work 24 = .ok (.aload_n 0, 1) := by decide +kernel
theorem dX6_work_25 : decode cX6_work 25 = .ok (.iload_n 2, 1) := by decide +kernel
theorem dX6_work_26 : decode cX6_work 26 = .ok (.invokevirtual 193, 3) := by decide +kernel
theorem dX6_work_29 : decode cX6_work 29 = .ok (.goto (-19), 3) := by decide +kernel
theorem dX6_work_32 : decode cX6_work 32 = .ok (.return_, 1) := by decide +kernel
theorem dX6_place_0 : decode cX6_place 0 = .ok (.sipush 600, 3) := by decide +kernel
theorem dX6_place_3 : decode cX6_place 3 = .ok (.iload_n 0, 1) := by decide +kernel
theorem dX6_place_4 : decode cX6_place 4 = .ok (.imul, 1) := by decide +kernel
theorem dX6_place_5 : decode cX6_place 5 = .ok (.bipush 6, 2) := by decide +kernel
theorem dX6_place_7 : decode cX6_place 7 = .ok (.iload_n 1, 1) := by decide +kernel
theorem dX6_place_8 : decode cX6_place 8 = .ok (.imul, 1) := by decide +kernel
theorem dX6_place_9 : decode cX6_place 9 = .ok (.iadd, 1) := by decide +kernel
theorem dX6_place_10 : decode cX6_place 10 = .ok (.ireturn, 1) := by decide +kernel
theorem dX6_copy_0 : decode cX6_copy 0 = .ok (.iconst 0, 1) := by decide +kernel
theorem dX6_copy_1 : decode cX6_copy 1 = .ok (.istore_n 3, 1) := by decide +kernel
theorem dX6_copy_2 : decode cX6_copy 2 = .ok (.iload_n 3, 1) := by decide +kernel
theorem dX6_copy_3 : decode cX6_copy 3 = .ok (.bipush 6, 2) := by decide +kernel
theorem dX6_copy_5 : decode cX6_copy 5 = .ok (.if_icmp .ge 25, 3) := by decide +kernel
theorem dX6_copy_8 : decode cX6_copy 8 = .ok (.aload_n 0, 1) := by decide +kernel
theorem dX6_copy_9 : decode cX6_copy 9 = .ok (.getfield 69, 3) := by decide +kernel
theorem dX6_copy_12 : decode cX6_copy 12 = .ok (.iload_n 2, 1) := by decide +kernel
theorem dX6_copy_13 : decode cX6_copy 13 = .ok (.iload_n 3, 1) := by decide +kernel
theorem dX6_copy_14 : decode cX6_copy 14 = .ok (.iadd, 1) := by decide +kernel
theorem dX6_copy_15 : decode cX6_copy 15 = .ok (.aload_n 0, 1) := by decide +kernel
theorem dX6_copy_16 : decode cX6_copy 16 = .ok (.getfield 69, 3) := by decide +kernel
theorem dX6_copy_19 : decode cX6_copy 19 = .ok (.iload_n 1, 1) := by decide +kernel
theorem dX6_copy_20 : decode cX6_copy 20 = .ok (.iload_n 3, 1) := by decide +kernel
theorem dX6_copy_21 : decode cX6_copy 21 = .ok (.iadd, 1) := by decide +kernel
theorem dX6_copy_22 : decode cX6_copy 22 = .ok (.iaload, 1) := by decide +kernel
theorem dX6_copy_23 : decode cX6_copy 23 = .ok (.iastore, 1) := by decide +kernel
theorem dX6_copy_24 : decode cX6_copy 24 = .ok (.iinc 3 1, 3) := by decide +kernel
theorem dX6_copy_27 : decode cX6_copy 27 = .ok (.goto (-25), 3) := by decide +kernel
theorem dX6_copy_30 : decode cX6_copy 30 = .ok (.iload_n 2, 1) := by decide +kernel
theorem dX6_copy_31 : decode cX6_copy 31 = .ok (.ireturn, 1) := by decide +kernel
theorem dX6_add_0 : decode cX6_add 0 = .ok (.aload_n 0, 1) := by decide +kernel
theorem dX6_add_1 : decode cX6_add 1 = .ok (.iload_n 2, 1) := by decide +kernel
theorem dX6_add_2 : decode cX6_add 2 = .ok (.iload_n 1, 1) := by decide +kernel
theorem dX6_add_3 : decode cX6_add 3 = .ok (.aload_n 0, 1) := by decide +kernel
theorem dX6_add_4 : decode cX6_add 4 = .ok (.getfield 72, 3) := by decide +kernel
theorem dX6_add_7 : decode cX6_add 7 = .ok (.iload_n 1, 1) := by decide +kernel
theorem dX6_add_8 : decode cX6_add 8 = .ok (.iaload, 1) := by decide +kernel
theorem dX6_add_9 : decode cX6_add 9 = .ok (.invokestatic 196, 3) := by decide +kernel
theorem dX6_add_12 : decode cX6_add 12 = .ok (.invokevirtual 200, 3) := by decide +kernel
theorem dX6_add_15 : decode cX6_add 15 = .ok (.istore_n 3, 1) := by decide +kernel
theorem dX6_add_16 : decode cX6_add 16 = .ok (.aload_n 0, 1) := by decide +kernel
theorem dX6_add_17 : decode cX6_add 17 = .ok (.getfield 72, 3) := by decide +kernel
theorem dX6_add_20 : decode cX6_add 20 = .ok (.iload_n 1, 1) := by decide +kernel
theorem dX6_add_21 : decode cX6_add 21 = .ok (.dup2, 1) := by decide +kernel
theorem dX6_add_22 : decode cX6_add 22 = .ok (.iaload, 1) := by decide +kernel
theorem dX6_add_23 : decode cX6_add 23 = .ok (.iconst 1, 1) := by decide +kernel
theorem dX6_add_24 : decode cX6_add 24 = .ok (.iadd, 1) := by decide +kernel
theorem dX6_add_25 : decode cX6_add 25 = .ok (.iastore, 1) := by decide +kernel
theorem dX6_add_26 : decode cX6_add 26 = .ok (.return_, 1) := by decide +kernel
theorem dX6_does_0 : decode cX6_does 0 = .ok (.aload_n 0, 1) := by decide +kernel
theorem dX6_does_1 : decode cX6_does 1 = .ok (.getfield 41, 3) := by decide +kernel
theorem dX6_does_4 : decode cX6_does 4 = .ok (.iload_n 1, 1) := by decide +kernel
theorem dX6_does_5 : decode cX6_does 5 = .ok (.iaload, 1) := by decide +kernel
theorem dX6_does_6 : decode cX6_does 6 = .ok (.istore_n 2, 1) := by decide +kernel
theorem dX6_does_7 : decode cX6_does 7 = .ok (.aload_n 0, 1) := by decide +kernel
theorem dX6_does_8 : decode cX6_does 8 = .ok (.getfield 72, 3) := by decide +kernel
theorem dX6_does_11 : decode cX6_does 11 = .ok (.iload_n 1, 1) := by decide +kernel
theorem dX6_does_12 : decode cX6_does 12 = .ok (.iconst 0, 1) := by decide +kernel
theorem dX6_does_13 : decode cX6_does 13 = .ok (.iastore, 1) := by decide +kernel
theorem dX6_does_14 : decode cX6_does 14 = .ok (.aload_n 0, 1) := by decide +kernel
theorem dX6_does_15 : decode cX6_does 15 = .ok (.getfield 38, 3) := by decide +kernel
theorem dX6_does_18 : decode cX6_does 18 = .ok (.iload_n 1, 1) := by decide +kernel
theorem dX6_does_19 : decode cX6_does 19 = .ok (.iaload, 1) := by decide +kernel
theorem dX6_does_20 : decode cX6_does 20 = .ok (.ifCond .ne 89, 3) := by decide +kernel
theorem dX6_does_23 : decode cX6_does 23 = .ok (.iconst 0, 1) := by decide +kernel
theorem dX6_does_24 : decode cX6_does 24 = .ok (.istore_n 3, 1) := by decide +kernel
theorem dX6_does_25 : decode cX6_does 25 = .ok (.iload_n 3, 1) := by decide +kernel
theorem dX6_does_26 : decode cX6_does 26 = .ok (.aload_n 0, 1) := by decide +kernel
theorem dX6_does_27 : decode cX6_does 27 = .ok (.getfield 7, 3) := by decide +kernel
theorem dX6_does_30 : decode cX6_does 30 = .ok (.iload_n 2, 1) := by decide +kernel
theorem dX6_does_31 : decode cX6_does 31 = .ok (.iaload, 1) := by decide +kernel
theorem dX6_does_32 : decode cX6_does 32 = .ok (.if_icmp .ge 64, 3) := by decide +kernel
theorem dX6_does_35 : decode cX6_does 35 = .ok (.iconst 0, 1) := by decide +kernel
theorem dX6_does_36 : decode cX6_does 36 = .ok (.istore 4, 2) := by decide +kernel
theorem dX6_does_38 : decode cX6_does 38 = .ok (.iload 4, 2) := by decide +kernel
theorem dX6_does_40 : decode cX6_does 40 = .ok (.bipush 6, 2) := by decide +kernel
theorem dX6_does_42 : decode cX6_does 42 = .ok (.if_icmp .ge 48, 3) := by decide +kernel
theorem dX6_does_45 : decode cX6_does 45 = .ok (.aload_n 0, 1) := by decide +kernel
theorem dX6_does_46 : decode cX6_does 46 = .ok (.getfield 69, 3) := by decide +kernel
theorem dX6_does_49 : decode cX6_does 49 = .ok (.iload_n 1, 1) := by decide +kernel
theorem dX6_does_50 : decode cX6_does 50 = .ok (.iload_n 3, 1) := by decide +kernel
theorem dX6_does_51 : decode cX6_does 51 = .ok (.invokestatic 196, 3) := by decide +kernel
theorem dX6_does_54 : decode cX6_does 54 = .ok (.iload 4, 2) := by decide +kernel
theorem dX6_does_56 : decode cX6_does 56 = .ok (.iadd, 1) := by decide +kernel
theorem dX6_does_57 : decode cX6_does 57 = .ok (.iload 4, 2) := by decide +kernel
theorem dX6_does_59 : decode cX6_does 59 = .ok (.iconst 3, 1) := by decide +kernel
theorem dX6_does_60 : decode cX6_does 60 = .ok (.if_icmp .ge 22, 3) := by decide +kernel
theorem dX6_does_63 : decode cX6_does 63 = .ok (.aload_n 0, 1) := by decide +kernel
theorem dX6_does_64 : decode cX6_does 64 = .ok (.getfield 13, 3) := by decide +kernel
theorem dX6_does_67 : decode cX6_does 67 = .ok (.bipush 18, 2) := by decide +kernel
theorem dX6_does_69 : decode cX6_does 69 = .ok (.iload_n 2, 1) := by decide +kernel
theorem dX6_does_70 : decode cX6_does 70 = .ok (.imul, 1) := by decide +kernel
theorem dX6_does_71 : decode cX6_does 71 = .ok (.iconst 3, 1) := by decide +kernel
theorem dX6_does_72 : decode cX6_does 72 = .ok (.iload_n 3, 1) := by decide +kernel
theorem dX6_does_73 : decode cX6_does 73 = .ok (.imul, 1) := by decide +kernel
theorem dX6_does_74 : decode cX6_does 74 = .ok (.iadd, 1) := by decide +kernel
theorem dX6_does_75 : decode cX6_does 75 = .ok (.iload 4, 2) := by decide +kernel
theorem dX6_does_77 : decode cX6_does 77 = .ok (.iadd, 1) := by decide +kernel
theorem dX6_does_78 : decode cX6_does 78 = .ok (.iaload, 1) := by decide +kernel
theorem dX6_does_79 : decode cX6_does 79 = .ok (.goto 4, 3) := by decide +kernel
theorem dX6_does_82 : decode cX6_does 82 = .ok (.iconst 0, 1) := by decide +kernel
theorem dX6_does_83 : decode cX6_does 83 = .ok (.iastore, 1) := by decide +kernel
theorem dX6_does_84 : decode cX6_does 84 = .ok (.iinc 4 1, 3) := by decide +kernel
theorem dX6_does_87 : decode cX6_does 87 = .ok (.goto (-49), 3) := by decide +kernel
theorem dX6_does_90 : decode cX6_does 90 = .ok (.iinc 3 1, 3) := by decide +kernel
theorem dX6_does_93 : decode cX6_does 93 = .ok (.goto (-68), 3) := by decide +kernel
theorem dX6_does_96 : decode cX6_does 96 = .ok (.aload_n 0, 1) := by decide +kernel
theorem dX6_does_97 : decode cX6_does 97 = .ok (.getfield 72, 3) := by decide +kernel
theorem dX6_does_100 : decode cX6_does 100 = .ok (.iload_n 1, 1) := by decide +kernel
theorem dX6_does_101 : decode cX6_does 101 = .ok (.aload_n 0, 1) := by decide +kernel
theorem dX6_does_102 : decode cX6_does 102 = .ok (.getfield 7, 3) := by decide +kernel
theorem dX6_does_105 : decode cX6_does 105 = .ok (.iload_n 2, 1) := by decide +kernel
theorem dX6_does_106 : decode cX6_does 106 = .ok (.iaload, 1) := by decide +kernel
theorem dX6_does_107 : decode cX6_does 107 = .ok (.iastore, 1) := by decide +kernel
theorem dX6_does_108 : decode cX6_does 108 = .ok (.return_, 1) := by decide +kernel
theorem dX6_does_109 : decode cX6_does 109 = .ok (.iconst 0, 1) := by decide +kernel
theorem dX6_does_110 : decode cX6_does 110 = .ok (.istore_n 3, 1) := by decide +kernel
theorem dX6_does_111 : decode cX6_does 111 = .ok (.iload_n 3, 1) := by decide +kernel
theorem dX6_does_112 : decode cX6_does 112 = .ok (.aload_n 0, 1) := by decide +kernel
theorem dX6_does_113 : decode cX6_does 113 = .ok (.getfield 72, 3) := by decide +kernel
theorem dX6_does_116 : decode cX6_does 116 = .ok (.iload_n 2, 1) := by decide +kernel
theorem dX6_does_117 : decode cX6_does 117 = .ok (.iaload, 1) := by decide +kernel
theorem dX6_does_118 : decode cX6_does 118 = .ok (.if_icmp .ge 27, 3) := by decide +kernel
theorem dX6_does_121 : decode cX6_does 121 = .ok (.aload_n 0, 1) := by decide +kernel
theorem dX6_does_122 : decode cX6_does 122 = .ok (.getfield 190, 3) := by decide +kernel
theorem dX6_does_125 : decode cX6_does 125 = .ok (.ifCond .ne 20, 3) := by decide +kernel
theorem dX6_does_128 : decode cX6_does 128 = .ok (.aload_n 0, 1) := by decide +kernel
theorem dX6_does_129 : decode cX6_does 129 = .ok (.iload_n 1, 1) := by decide +kernel
theorem dX6_does_130 : decode cX6_does 130 = .ok (.iload_n 3, 1) := by decide +kernel
theorem dX6_does_131 : decode cX6_does 131 = .ok (.iload_n 2, 1) := by decide +kernel
theorem dX6_does_132 : decode cX6_does 132 = .ok (.iload_n 3, 1) := by decide +kernel
theorem dX6_does_133 : decode cX6_does 133 = .ok (.invokestatic 196, 3) := by decide +kernel
theorem dX6_does_136 : decode cX6_does 136 = .ok (.invokevirtual 203, 3) := by decide +kernel
theorem dX6_does_139 : decode cX6_does 139 = .ok (.iinc 3 1, 3) := by decide +kernel
theorem dX6_does_142 : decode cX6_does 142 = .ok (.goto (-31), 3) := by decide +kernel
theorem dX6_does_145 : decode cX6_does 145 = .ok (.aload_n 0, 1) := by decide +kernel
theorem dX6_does_146 : decode cX6_does 146 = .ok (.getfield 38, 3) := by decide +kernel
theorem dX6_does_149 : decode cX6_does 149 = .ok (.iload_n 1, 1) := by decide +kernel
theorem dX6_does_150 : decode cX6_does 150 = .ok (.iaload, 1) := by decide +kernel
theorem dX6_does_151 : decode cX6_does 151 = .ok (.iconst 5, 1) := by decide +kernel
theorem dX6_does_152 : decode cX6_does 152 = .ok (.if_icmp .ne 41, 3) := by decide +kernel
theorem dX6_does_155 : decode cX6_does 155 = .ok (.iconst 0, 1) := by decide +kernel
theorem dX6_does_156 : decode cX6_does 156 = .ok (.istore_n 3, 1) := by decide +kernel
theorem dX6_does_157 : decode cX6_does 157 = .ok (.iload_n 3, 1) := by decide +kernel
theorem dX6_does_158 : decode cX6_does 158 = .ok (.aload_n 0, 1) := by decide +kernel
theorem dX6_does_159 : decode cX6_does 159 = .ok (.getfield 72, 3) := by decide +kernel
theorem dX6_does_162 : decode cX6_does 162 = .ok (.aload_n 0, 1) := by decide +kernel
theorem dX6_does_163 : decode cX6_does 163 = .ok (.getfield 44, 3) := by decide +kernel
theorem dX6_does_166 : decode cX6_does 166 = .ok (.iload_n 1, 1) := by decide +kernel
theorem dX6_does_167 : decode cX6_does 167 = .ok (.iaload, 1) := by decide +kernel
theorem dX6_does_168 : decode cX6_does 168 = .ok (.iaload, 1) := by decide +kernel
theorem dX6_does_169 : decode cX6_does 169 = .ok (.if_icmp .ge 24, 3) := by decide +kernel
theorem dX6_does_172 : decode cX6_does 172 = .ok (.aload_n 0, 1) := by decide +kernel
theorem dX6_does_173 : decode cX6_does 173 = .ok (.iload_n 1, 1) := by decide +kernel
theorem dX6_does_174 : decode cX6_does 174 = .ok (.aload_n 0, 1) := by decide +kernel
theorem dX6_does_175 : decode cX6_does 175 = .ok (.getfield 44, 3) := by decide +kernel
theorem dX6_does_178 : decode cX6_does 178 = .ok (.iload_n 1, 1) := by decide +kernel
theorem dX6_does_179 : decode cX6_does 179 = .ok (.iaload, 1) := by decide +kernel
theorem dX6_does_180 : decode cX6_does 180 = .ok (.iload_n 3, 1) := by decide +kernel
theorem dX6_does_181 : decode cX6_does 181 = .ok (.invokestatic 196, 3) := by decide +kernel
theorem dX6_does_184 : decode cX6_does 184 = .ok (.invokevirtual 206, 3) := by decide +kernel
theorem dX6_does_187 : decode cX6_does 187 = .ok (.iinc 3 1, 3) := by decide +kernel
theorem dX6_does_190 : decode cX6_does 190 = .ok (.goto (-33), 3) := by decide +kernel
theorem dX6_does_193 : decode cX6_does 193 = .ok (.return_, 1) := by decide +kernel
theorem dX6_takes_0 : decode cX6_takes 0 = .ok (.aload_n 0, 1) := by decide +kernel
theorem dX6_takes_1 : decode cX6_takes 1 = .ok (.getfield 38, 3) := by decide +kernel
theorem dX6_takes_4 : decode cX6_takes 4 = .ok (.iload_n 1, 1) := by decide +kernel
theorem dX6_takes_5 : decode cX6_takes 5 = .ok (.iaload, 1) := by decide +kernel
theorem dX6_takes_6 : decode cX6_takes 6 = .ok (.tableswitch 249 1 8 #[46, 80, 128, 194, 249, 203, 212, 230], 46) := by decide +kernel
theorem dX6_takes_52 : decode cX6_takes 52 = .ok (.aload_n 0, 1) := by decide +kernel
theorem dX6_takes_53 : decode cX6_takes 53 = .ok (.aload_n 0, 1) := by decide +kernel
theorem dX6_takes_54 : decode cX6_takes 54 = .ok (.getfield 50, 3) := by decide +kernel
theorem dX6_takes_57 : decode cX6_takes 57 = .ok (.iload_n 1, 1) := by decide +kernel
theorem dX6_takes_58 : decode cX6_takes 58 = .ok (.iaload, 1) := by decide +kernel
theorem dX6_takes_59 : decode cX6_takes 59 = .ok (.iload_n 3, 1) := by decide +kernel
theorem dX6_takes_60 : decode cX6_takes 60 = .ok (.invokevirtual 210, 3) := by decide +kernel
theorem dX6_takes_63 : decode cX6_takes 63 = .ok (.aload_n 0, 1) := by decide +kernel
theorem dX6_takes_64 : decode cX6_takes 64 = .ok (.getfield 190, 3) := by decide +kernel
theorem dX6_takes_67 : decode cX6_takes 67 = .ok (.ifCond .ne 194, 3) := by decide +kernel
theorem dX6_takes_70 : decode cX6_takes 70 = .ok (.aload_n 0, 1) := by decide +kernel
theorem dX6_takes_71 : decode cX6_takes 71 = .ok (.getfield 174, 3) := by decide +kernel
theorem dX6_takes_74 : decode cX6_takes 74 = .ok (.ifCond .eq 187, 3) := by decide +kernel
theorem dX6_takes_77 : decode cX6_takes 77 = .ok (.aload_n 0, 1) := by decide +kernel
theorem dX6_takes_78 : decode cX6_takes 78 = .ok (.iload_n 1, 1) := by decide +kernel
theorem dX6_takes_79 : decode cX6_takes 79 = .ok (.iload_n 3, 1) := by decide +kernel
theorem dX6_takes_80 : decode cX6_takes 80 = .ok (.invokevirtual 206, 3) := by decide +kernel
theorem dX6_takes_83 : decode cX6_takes 83 = .ok (.goto 178, 3) := by decide +kernel
theorem dX6_takes_86 : decode cX6_takes 86 = .ok (.aload_n 0, 1) := by decide +kernel
theorem dX6_takes_87 : decode cX6_takes 87 = .ok (.aload_n 0, 1) := by decide +kernel
theorem dX6_takes_88 : decode cX6_takes 88 = .ok (.getfield 50, 3) := by decide +kernel
theorem dX6_takes_91 : decode cX6_takes 91 = .ok (.iload_n 1, 1) := by decide +kernel
theorem dX6_takes_92 : decode cX6_takes 92 = .ok (.iaload, 1) := by decide +kernel
theorem dX6_takes_93 : decode cX6_takes 93 = .ok (.iload_n 3, 1) := by decide +kernel
theorem dX6_takes_94 : decode cX6_takes 94 = .ok (.invokevirtual 210, 3) := by decide +kernel
theorem dX6_takes_97 : decode cX6_takes 97 = .ok (.aload_n 0, 1) := by decide +kernel
theorem dX6_takes_98 : decode cX6_takes 98 = .ok (.getfield 190, 3) := by decide +kernel
theorem dX6_takes_101 : decode cX6_takes 101 = .ok (.ifCond .ne 160, 3) := by decide +kernel
theorem dX6_takes_104 : decode cX6_takes 104 = .ok (.aload_n 0, 1) := by decide +kernel
theorem dX6_takes_105 : decode cX6_takes 105 = .ok (.iload_n 1, 1) := by decide +kernel
theorem dX6_takes_106 : decode cX6_takes 106 = .ok (.iload_n 3, 1) := by decide +kernel
theorem dX6_takes_107 : decode cX6_takes 107 = .ok (.invokevirtual 206, 3) := by decide +kernel
theorem dX6_takes_110 : decode cX6_takes 110 = .ok (.aload_n 0, 1) := by decide +kernel
theorem dX6_takes_111 : decode cX6_takes 111 = .ok (.getfield 69, 3) := by decide +kernel
theorem dX6_takes_114 : decode cX6_takes 114 = .ok (.iload_n 1, 1) := by decide +kernel
theorem dX6_takes_115 : decode cX6_takes 115 = .ok (.iload_n 2, 1) := by decide +kernel
theorem dX6_takes_116 : decode cX6_takes 116 = .ok (.invokestatic 196, 3) := by decide +kernel
theorem dX6_takes_119 : decode cX6_takes 119 = .ok (.aload_n 0, 1) := by decide +kernel
theorem dX6_takes_120 : decode cX6_takes 120 = .ok (.getfield 47, 3) := by decide +kernel
theorem dX6_takes_123 : decode cX6_takes 123 = .ok (.iload_n 1, 1) := by decide +kernel
theorem dX6_takes_124 : decode cX6_takes 124 = .ok (.iaload, 1) := by decide +kernel
theorem dX6_takes_125 : decode cX6_takes 125 = .ok (.iadd, 1) := by decide +kernel
theorem dX6_takes_126 : decode cX6_takes 126 = .ok (.aload_n 0, 1) := by decide +kernel
theorem dX6_takes_127 : decode cX6_takes 127 = .ok (.getfield 174, 3) := by decide +kernel
theorem dX6_takes_130 : decode cX6_takes 130 = .ok (.iastore, 1) := by decide +kernel
theorem dX6_takes_131 : decode cX6_takes 131 = .ok (.goto 130, 3) := by decide +kernel
theorem dX6_takes_134 : decode cX6_takes 134 = .ok (.aload_n 0, 1) := by decide +kernel
theorem dX6_takes_135 : decode cX6_takes 135 = .ok (.iload_n 1, 1) := by decide +kernel
theorem dX6_takes_136 : decode cX6_takes 136 = .ok (.iload_n 3, 1) := by decide +kernel
theorem dX6_takes_137 : decode cX6_takes 137 = .ok (.invokevirtual 206, 3) := by decide +kernel
theorem dX6_takes_140 : decode cX6_takes 140 = .ok (.iconst 0, 1) := by decide +kernel
theorem dX6_takes_141 : decode cX6_takes 141 = .ok (.istore 4, 2) := by decide +kernel
theorem dX6_takes_143 : decode cX6_takes 143 = .ok (.iload 4, 2) := by decide +kernel
theorem dX6_takes_145 : decode cX6_takes 145 = .ok (.bipush 6, 2) := by decide +kernel
theorem dX6_takes_147 : decode cX6_takes 147 = .ok (.if_icmp .ge 50, 3) := by decide +kernel
theorem dX6_takes_150 : decode cX6_takes 150 = .ok (.aload_n 0, 1) := by decide +kernel
theorem dX6_takes_151 : decode cX6_takes 151 = .ok (.getfield 69, 3) := by decide +kernel
theorem dX6_takes_154 : decode cX6_takes 154 = .ok (.iload_n 1, 1) := by decide +kernel
theorem dX6_takes_155 : decode cX6_takes 155 = .ok (.iload_n 2, 1) := by decide +kernel
theorem dX6_takes_156 : decode cX6_takes 156 = .ok (.invokestatic 196, 3) := by decide +kernel
theorem dX6_takes_159 : decode cX6_takes 159 = .ok (.iload 4, 2) := by decide +kernel
theorem dX6_takes_161 : decode cX6_takes 161 = .ok (.iadd, 1) := by decide +kernel
theorem dX6_takes_162 : decode cX6_takes 162 = .ok (.aload_n 0, 1) := by decide +kernel
theorem dX6_takes_163 : decode cX6_takes 163 = .ok (.getfield 50, 3) := by decide +kernel
theorem dX6_takes_166 : decode cX6_takes 166 = .ok (.iload_n 1, 1) := by decide +kernel
theorem dX6_takes_167 : decode cX6_takes 167 = .ok (.iaload, 1) := by decide +kernel
theorem dX6_takes_168 : decode cX6_takes 168 = .ok (.iload 4, 2) := by decide +kernel
theorem dX6_takes_170 : decode cX6_takes 170 = .ok (.ishr, 1) := by decide +kernel
theorem dX6_takes_171 : decode cX6_takes 171 = .ok (.iconst 1, 1) := by decide +kernel
theorem dX6_takes_172 : decode cX6_takes 172 = .ok (.iand, 1) := by decide +kernel
theorem dX6_takes_173 : decode cX6_takes 173 = .ok (.iconst 1, 1) := by decide +kernel
theorem dX6_takes_174 : decode cX6_takes 174 = .ok (.if_icmp .ne 15, 3) := by decide +kernel
theorem dX6_takes_177 : decode cX6_takes 177 = .ok (.aload_n 0, 1) := by decide +kernel
theorem dX6_takes_178 : decode cX6_takes 178 = .ok (.getfield 69, 3) := by decide +kernel
theorem dX6_takes_181 : decode cX6_takes 181 = .ok (.iload_n 3, 1) := by decide +kernel
theorem dX6_takes_182 : decode cX6_takes 182 = .ok (.iload 4, 2) := by decide +kernel
theorem dX6_takes_184 : decode cX6_takes 184 = .ok (.iadd, 1) := by decide +kernel
theorem dX6_takes_185 : decode cX6_takes 185 = .ok (.iaload, 1) := by decide +kernel
theorem dX6_takes_186 : decode cX6_takes 186 = .ok (.goto 4, 3) := by decide +kernel
theorem dX6_takes_189 : decode cX6_takes 189 = .ok (.iconst 0, 1) := by decide +kernel
theorem dX6_takes_190 : decode cX6_takes 190 = .ok (.iastore, 1) := by decide +kernel
theorem dX6_takes_191 : decode cX6_takes 191 = .ok (.iinc 4 1, 3) := by decide +kernel
theorem dX6_takes_194 : decode cX6_takes 194 = .ok (.goto (-51), 3) := by decide +kernel
theorem dX6_takes_197 : decode cX6_takes 197 = .ok (.goto 64, 3) := by decide +kernel
theorem dX6_takes_200 : decode cX6_takes 200 = .ok (.aload_n 0, 1) := by decide +kernel
theorem dX6_takes_201 : decode cX6_takes 201 = .ok (.iload_n 1, 1) := by decide +kernel
theorem dX6_takes_202 : decode cX6_takes 202 = .ok (.iload_n 3, 1) := by decide +kernel
theorem dX6_takes_203 : decode cX6_takes 203 = .ok (.invokevirtual 213, 3) := by decide +kernel
theorem dX6_takes_206 : decode cX6_takes 206 = .ok (.goto 55, 3) := by decide +kernel
theorem dX6_takes_209 : decode cX6_takes 209 = .ok (.aload_n 0, 1) := by decide +kernel
theorem dX6_takes_210 : decode cX6_takes 210 = .ok (.iload_n 1, 1) := by decide +kernel
theorem dX6_takes_211 : decode cX6_takes 211 = .ok (.iload_n 3, 1) := by decide +kernel
theorem dX6_takes_212 : decode cX6_takes 212 = .ok (.invokevirtual 216, 3) := by decide +kernel
theorem dX6_takes_215 : decode cX6_takes 215 = .ok (.goto 46, 3) := by decide +kernel
theorem dX6_takes_218 : decode cX6_takes 218 = .ok (.aload_n 0, 1) := by decide +kernel
theorem dX6_takes_219 : decode cX6_takes 219 = .ok (.iload_n 1, 1) := by decide +kernel
theorem dX6_takes_220 : decode cX6_takes 220 = .ok (.iload_n 3, 1) := by decide +kernel
theorem dX6_takes_221 : decode cX6_takes 221 = .ok (.invokevirtual 219, 3) := by decide +kernel
theorem dX6_takes_224 : decode cX6_takes 224 = .ok (.ifCond .ne 37, 3) := by decide +kernel
theorem dX6_takes_227 : decode cX6_takes 227 = .ok (.aload_n 0, 1) := by decide +kernel
theorem dX6_takes_228 : decode cX6_takes 228 = .ok (.iload_n 1, 1) := by decide +kernel
theorem dX6_takes_229 : decode cX6_takes 229 = .ok (.iload_n 3, 1) := by decide +kernel
theorem dX6_takes_230 : decode cX6_takes 230 = .ok (.invokevirtual 206, 3) := by decide +kernel
theorem dX6_takes_233 : decode cX6_takes 233 = .ok (.goto 28, 3) := by decide +kernel
theorem dX6_takes_236 : decode cX6_takes 236 = .ok (.iload_n 2, 1) := by decide +kernel
theorem dX6_takes_237 : decode cX6_takes 237 = .ok (.aload_n 0, 1) := by decide +kernel
theorem dX6_takes_238 : decode cX6_takes 238 = .ok (.getfield 50, 3) := by decide +kernel
theorem dX6_takes_241 : decode cX6_takes 241 = .ok (.iload_n 1, 1) := by decide +kernel
theorem dX6_takes_242 : decode cX6_takes 242 = .ok (.iaload, 1) := by decide +kernel
theorem dX6_takes_243 : decode cX6_takes 243 = .ok (.if_icmp .ge 18, 3) := by decide +kernel
theorem dX6_takes_246 : decode cX6_takes 246 = .ok (.aload_n 0, 1) := by decide +kernel
theorem dX6_takes_247 : decode cX6_takes 247 = .ok (.iload_n 1, 1) := by decide +kernel
theorem dX6_takes_248 : decode cX6_takes 248 = .ok (.iload_n 3, 1) := by decide +kernel
theorem dX6_takes_249 : decode cX6_takes 249 = .ok (.invokevirtual 206, 3) := by decide +kernel
theorem dX6_takes_252 : decode cX6_takes 252 = .ok (.goto 9, 3) := by decide +kernel
theorem dX6_takes_255 : decode cX6_takes 255 = .ok (.aload_n 0, 1) := by decide +kernel
theorem dX6_takes_256 : decode cX6_takes 256 = .ok (.iload_n 1, 1) := by decide +kernel
theorem dX6_takes_257 : decode cX6_takes 257 = .ok (.iload_n 3, 1) := by decide +kernel
theorem dX6_takes_258 : decode cX6_takes 258 = .ok (.invokevirtual 206, 3) := by decide +kernel
theorem dX6_takes_261 : decode cX6_takes 261 = .ok (.return_, 1) := by decide +kernel
theorem dX6_joins_0 : decode cX6_joins 0 = .ok (.aload_n 0, 1) := by decide +kernel
theorem dX6_joins_1 : decode cX6_joins 1 = .ok (.getfield 44, 3) := by decide +kernel
theorem dX6_joins_4 : decode cX6_joins 4 = .ok (.iload_n 1, 1) := by decide +kernel
theorem dX6_joins_5 : decode cX6_joins 5 = .ok (.iaload, 1) := by decide +kernel
theorem dX6_joins_6 : decode cX6_joins 6 = .ok (.istore_n 3, 1) := by decide +kernel
theorem dX6_joins_7 : decode cX6_joins 7 = .ok (.iconst 0, 1) := by decide +kernel
theorem dX6_joins_8 : decode cX6_joins 8 = .ok (.istore 4, 2) := by decide +kernel
theorem dX6_joins_10 : decode cX6_joins 10 = .ok (.iload 4, 2) := by decide +kernel
theorem dX6_joins_12 : decode cX6_joins 12 = .ok (.aload_n 0, 1) := by decide +kernel
theorem dX6_joins_13 : decode cX6_joins 13 = .ok (.getfield 72, 3) := by decide +kernel
theorem dX6_joins_16 : decode cX6_joins 16 = .ok (.iload_n 3, 1) := by decide +kernel
theorem dX6_joins_17 : decode cX6_joins 17 = .ok (.iaload, 1) := by decide +kernel
theorem dX6_joins_18 : decode cX6_joins 18 = .ok (.if_icmp .ge 131, 3) := by decide +kernel
theorem dX6_joins_21 : decode cX6_joins 21 = .ok (.iload_n 3, 1) := by decide +kernel
theorem dX6_joins_22 : decode cX6_joins 22 = .ok (.iload 4, 2) := by decide +kernel
theorem dX6_joins_24 : decode cX6_joins 24 = .ok (.invokestatic 196, 3) := by decide +kernel
theorem dX6_joins_27 : decode cX6_joins 27 = .ok (.istore 5, 2) := by decide +kernel
theorem dX6_joins_29 : decode cX6_joins 29 = .ok (.aload_n 0, 1) := by decide +kernel
theorem dX6_joins_30 : decode cX6_joins 30 = .ok (.getfield 69, 3) := by decide +kernel
theorem dX6_joins_33 : decode cX6_joins 33 = .ok (.iload 5, 2) := by decide +kernel
theorem dX6_joins_35 : decode cX6_joins 35 = .ok (.aload_n 0, 1) := by decide +kernel
theorem dX6_joins_36 : decode cX6_joins 36 = .ok (.getfield 47, 3) := by decide +kernel
theorem dX6_joins_39 : decode cX6_joins 39 = .ok (.iload_n 1, 1) := by decide +kernel
theorem dX6_joins_40 : decode cX6_joins 40 = .ok (.iaload, 1) := by decide +kernel
theorem dX6_joins_41 : decode cX6_joins 41 = .ok (.iadd, 1) := by decide +kernel
theorem dX6_joins_42 : decode cX6_joins 42 = .ok (.iaload, 1) := by decide +kernel
theorem dX6_joins_43 : decode cX6_joins 43 = .ok (.aload_n 0, 1) := by decide +kernel
theorem dX6_joins_44 : decode cX6_joins 44 = .ok (.getfield 69, 3) := by decide +kernel
theorem dX6_joins_47 : decode cX6_joins 47 = .ok (.iload_n 2, 1) := by decide +kernel
theorem dX6_joins_48 : decode cX6_joins 48 = .ok (.aload_n 0, 1) := by decide +kernel
theorem dX6_joins_49 : decode cX6_joins 49 = .ok (.getfield 47, 3) := by decide +kernel
theorem dX6_joins_52 : decode cX6_joins 52 = .ok (.iload_n 1, 1) := by decide +kernel
theorem dX6_joins_53 : decode cX6_joins 53 = .ok (.iaload, 1) := by decide +kernel
theorem dX6_joins_54 : decode cX6_joins 54 = .ok (.iadd, 1) := by decide +kernel
theorem dX6_joins_55 : decode cX6_joins 55 = .ok (.iaload, 1) := by decide +kernel
theorem dX6_joins_56 : decode cX6_joins 56 = .ok (.if_icmp .ne 87, 3) := by decide +kernel
theorem dX6_joins_59 : decode cX6_joins 59 = .ok (.aload_n 0, 1) := by decide +kernel
theorem dX6_joins_60 : decode cX6_joins 60 = .ok (.iload_n 1, 1) := by decide +kernel
theorem dX6_joins_61 : decode cX6_joins 61 = .ok (.iload_n 2, 1) := by decide +kernel
theorem dX6_joins_62 : decode cX6_joins 62 = .ok (.invokevirtual 206, 3) := by decide +kernel
theorem dX6_joins_65 : decode cX6_joins 65 = .ok (.iload_n 1, 1) := by decide +kernel
theorem dX6_joins_66 : decode cX6_joins 66 = .ok (.aload_n 0, 1) := by decide +kernel
theorem dX6_joins_67 : decode cX6_joins 67 = .ok (.getfield 72, 3) := by decide +kernel
theorem dX6_joins_70 : decode cX6_joins 70 = .ok (.iload_n 1, 1) := by decide +kernel
theorem dX6_joins_71 : decode cX6_joins 71 = .ok (.iaload, 1) := by decide +kernel
theorem dX6_joins_72 : decode cX6_joins 72 = .ok (.iconst 1, 1) := by decide +kernel
theorem dX6_joins_73 : decode cX6_joins 73 = .ok (.isub, 1) := by decide +kernel
theorem dX6_joins_74 : decode cX6_joins 74 = .ok (.invokestatic 196, 3) := by decide +kernel
theorem dX6_joins_77 : decode cX6_joins 77 = .ok (.istore 6, 2) := by decide +kernel
theorem dX6_joins_79 : decode cX6_joins 79 = .ok (.iconst 0, 1) := by decide +kernel
theorem dX6_joins_80 : decode cX6_joins 80 = .ok (.istore 7, 2) := by decide +kernel
theorem dX6_joins_82 : decode cX6_joins 82 = .ok (.iload 7, 2) := by decide +kernel
theorem dX6_joins_84 : decode cX6_joins 84 = .ok (.bipush 6, 2) := by decide +kernel
theorem dX6_joins_86 : decode cX6_joins 86 = .ok (.if_icmp .ge 57, 3) := by decide +kernel
theorem dX6_joins_89 : decode cX6_joins 89 = .ok (.aload_n 0, 1) := by decide +kernel
theorem dX6_joins_90 : decode cX6_joins 90 = .ok (.getfield 69, 3) := by decide +kernel
theorem dX6_joins_93 : decode cX6_joins 93 = .ok (.iload 6, 2) := by decide +kernel
theorem dX6_joins_95 : decode cX6_joins 95 = .ok (.iload 7, 2) := by decide +kernel
theorem dX6_joins_97 : decode cX6_joins 97 = .ok (.iadd, 1) := by decide +kernel
theorem dX6_joins_98 : decode cX6_joins 98 = .ok (.aload_n 0, 1) := by decide +kernel
theorem dX6_joins_99 : decode cX6_joins 99 = .ok (.getfield 50, 3) := by decide +kernel
theorem dX6_joins_102 : decode cX6_joins 102 = .ok (.iload_n 1, 1) := by decide +kernel
theorem dX6_joins_103 : decode cX6_joins 103 = .ok (.iaload, 1) := by decide +kernel
theorem dX6_joins_104 : decode cX6_joins 104 = .ok (.iload 7, 2) := by decide +kernel
theorem dX6_joins_106 : decode cX6_joins 106 = .ok (.ishr, 1) := by decide +kernel
theorem dX6_joins_107 : decode cX6_joins 107 = .ok (.iconst 1, 1) := by decide +kernel
theorem dX6_joins_108 : decode cX6_joins 108 = .ok (.iand, 1) := by decide +kernel
theorem dX6_joins_109 : decode cX6_joins 109 = .ok (.iconst 1, 1) := by decide +kernel
theorem dX6_joins_110 : decode cX6_joins 110 = .ok (.if_icmp .ne 16, 3) := by decide +kernel
theorem dX6_joins_113 : decode cX6_joins 113 = .ok (.aload_n 0, 1) := by decide +kernel
theorem dX6_joins_114 : decode cX6_joins 114 = .ok (.getfield 69, 3) := by decide +kernel
theorem dX6_joins_117 : decode cX6_joins 117 = .ok (.iload 5, 2) := by decide +kernel
theorem dX6_joins_119 : decode cX6_joins 119 = .ok (.iload 7, 2) := by decide +kernel
theorem dX6_joins_121 : decode cX6_joins 121 = .ok (.iadd, 1) := by decide +kernel
theorem dX6_joins_122 : decode cX6_joins 122 = .ok (.iaload, 1) := by decide +kernel
theorem dX6_joins_123 : decode cX6_joins 123 = .ok (.goto 13, 3) := by decide +kernel
theorem dX6_joins_126 : decode cX6_joins 126 = .ok (.aload_n 0, 1) := by decide +kernel
theorem dX6_joins_127 : decode cX6_joins 127 = .ok (.getfield 69, 3) := by decide +kernel
theorem dX6_joins_130 : decode cX6_joins 130 = .ok (.iload 6, 2) := by decide +kernel
theorem dX6_joins_132 : decode cX6_joins 132 = .ok (.iload 7, 2) := by decide +kernel
theorem dX6_joins_134 : decode cX6_joins 134 = .ok (.iadd, 1) := by decide +kernel
theorem dX6_joins_135 : decode cX6_joins 135 = .ok (.iaload, 1) := by decide +kernel
theorem dX6_joins_136 : decode cX6_joins 136 = .ok (.iastore, 1) := by decide +kernel
theorem dX6_joins_137 : decode cX6_joins 137 = .ok (.iinc 7 1, 3) := by decide +kernel
theorem dX6_joins_140 : decode cX6_joins 140 = .ok (.goto (-58), 3) := by decide +kernel
theorem dX6_joins_143 : decode cX6_joins 143 = .ok (.iinc 4 1, 3) := by decide +kernel
theorem dX6_joins_146 : decode cX6_joins 146 = .ok (.goto (-136), 3) := by decide +kernel
theorem dX6_joins_149 : decode cX6_joins 149 = .ok (.return_, 1) := by decide +kernel
theorem dX6_folds_0 : decode cX6_folds 0 = .ok (.iconst 0, 1) := by decide +kernel
theorem dX6_folds_1 : decode cX6_folds 1 = .ok (.istore_n 3, 1) := by decide +kernel
theorem dX6_folds_2 : decode cX6_folds 2 = .ok (.iload_n 3, 1) := by decide +kernel
theorem dX6_folds_3 : decode cX6_folds 3 = .ok (.aload_n 0, 1) := by decide +kernel
theorem dX6_folds_4 : decode cX6_folds 4 = .ok (.getfield 72, 3) := by decide +kernel
theorem dX6_folds_7 : decode cX6_folds 7 = .ok (.iload_n 1, 1) := by decide +kernel
theorem dX6_folds_8 : decode cX6_folds 8 = .ok (.iaload, 1) := by decide +kernel
theorem dX6_folds_9 : decode cX6_folds 9 = .ok (.if_icmp .ge 42, 3) := by decide +kernel
theorem dX6_folds_12 : decode cX6_folds 12 = .ok (.aload_n 0, 1) := by decide +kernel
theorem dX6_folds_13 : decode cX6_folds 13 = .ok (.getfield 69, 3) := by decide +kernel
theorem dX6_folds_16 : decode cX6_folds 16 = .ok (.iload_n 1, 1) := by decide +kernel
theorem dX6_folds_17 : decode cX6_folds 17 = .ok (.iload_n 3, 1) := by decide +kernel
theorem dX6_folds_18 : decode cX6_folds 18 = .ok (.invokestatic 196, 3) := by decide +kernel
theorem dX6_folds_21 : decode cX6_folds 21 = .ok (.aload_n 0, 1) := by decide +kernel
theorem dX6_folds_22 : decode cX6_folds 22 = .ok (.getfield 47, 3) := by decide +kernel
theorem dX6_folds_25 : decode cX6_folds 25 = .ok (.iload_n 1, 1) := by decide +kernel
theorem dX6_folds_26 : decode cX6_folds 26 = .ok (.iaload, 1) := by decide +kernel
theorem dX6_folds_27 : decode cX6_folds 27 = .ok (.iadd, 1) := by decide +kernel
theorem dX6_folds_28 : decode cX6_folds 28 = .ok (.iaload, 1) := by decide +kernel
theorem dX6_folds_29 : decode cX6_folds 29 = .ok (.aload_n 0, 1) := by decide +kernel
theorem dX6_folds_30 : decode cX6_folds 30 = .ok (.getfield 69, 3) := by decide +kernel
theorem dX6_folds_33 : decode cX6_folds 33 = .ok (.iload_n 2, 1) := by decide +kernel
theorem dX6_folds_34 : decode cX6_folds 34 = .ok (.aload_n 0, 1) := by decide +kernel
theorem dX6_folds_35 : decode cX6_folds 35 = .ok (.getfield 47, 3) := by decide +kernel
theorem dX6_folds_38 : decode cX6_folds 38 = .ok (.iload_n 1, 1) := by decide +kernel
theorem dX6_folds_39 : decode cX6_folds 39 = .ok (.iaload, 1) := by decide +kernel
theorem dX6_folds_40 : decode cX6_folds 40 = .ok (.iadd, 1) := by decide +kernel
theorem dX6_folds_41 : decode cX6_folds 41 = .ok (.iaload, 1) := by decide +kernel
theorem dX6_folds_42 : decode cX6_folds 42 = .ok (.if_icmp .eq 9, 3) := by decide +kernel
theorem dX6_folds_45 : decode cX6_folds 45 = .ok (.iinc 3 1, 3) := by decide +kernel
theorem dX6_folds_48 : decode cX6_folds 48 = .ok (.goto (-46), 3) := by decide +kernel
theorem dX6_folds_51 : decode cX6_folds 51 = .ok (.iload_n 1, 1) := by decide +kernel
theorem dX6_folds_52 : decode cX6_folds 52 = .ok (.iload_n 3, 1) := by decide +kernel
theorem dX6_folds_53 : decode cX6_folds 53 = .ok (.invokestatic 196, 3) := by decide +kernel
theorem dX6_folds_56 : decode cX6_folds 56 = .ok (.istore 4, 2) := by decide +kernel
theorem dX6_folds_58 : decode cX6_folds 58 = .ok (.iload_n 3, 1) := by decide +kernel
theorem dX6_folds_59 : decode cX6_folds 59 = .ok (.aload_n 0, 1) := by decide +kernel
theorem dX6_folds_60 : decode cX6_folds 60 = .ok (.getfield 72, 3) := by decide +kernel
theorem dX6_folds_63 : decode cX6_folds 63 = .ok (.iload_n 1, 1) := by decide +kernel
theorem dX6_folds_64 : decode cX6_folds 64 = .ok (.iaload, 1) := by decide +kernel
theorem dX6_folds_65 : decode cX6_folds 65 = .ok (.if_icmp .ne 67, 3) := by decide +kernel
theorem dX6_folds_68 : decode cX6_folds 68 = .ok (.iconst 0, 1) := by decide +kernel
theorem dX6_folds_69 : decode cX6_folds 69 = .ok (.istore 5, 2) := by decide +kernel
theorem dX6_folds_71 : decode cX6_folds 71 = .ok (.iload 5, 2) := by decide +kernel
theorem dX6_folds_73 : decode cX6_folds 73 = .ok (.bipush 6, 2) := by decide +kernel
theorem dX6_folds_75 : decode cX6_folds 75 = .ok (.if_icmp .ge 20, 3) := by decide +kernel
theorem dX6_folds_78 : decode cX6_folds 78 = .ok (.aload_n 0, 1) := by decide +kernel
theorem dX6_folds_79 : decode cX6_folds 79 = .ok (.getfield 69, 3) := by decide +kernel
theorem dX6_folds_82 : decode cX6_folds 82 = .ok (.iload 4, 2) := by decide +kernel
theorem dX6_folds_84 : decode cX6_folds 84 = .ok (.iload 5, 2) := by decide +kernel
theorem dX6_folds_86 : decode cX6_folds 86 = .ok (.iadd, 1) := by decide +kernel
theorem dX6_folds_87 : decode cX6_folds 87 = .ok (.iconst 0, 1) := by decide +kernel
theorem dX6_folds_88 : decode cX6_folds 88 = .ok (.iastore, 1) := by decide +kernel
theorem dX6_folds_89 : decode cX6_folds 89 = .ok (.iinc 5 1, 3) := by decide +kernel
theorem dX6_folds_92 : decode cX6_folds 92 = .ok (.goto (-21), 3) := by decide +kernel
theorem dX6_folds_95 : decode cX6_folds 95 = .ok (.aload_n 0, 1) := by decide +kernel
theorem dX6_folds_96 : decode cX6_folds 96 = .ok (.getfield 69, 3) := by decide +kernel
theorem dX6_folds_99 : decode cX6_folds 99 = .ok (.iload 4, 2) := by decide +kernel
theorem dX6_folds_101 : decode cX6_folds 101 = .ok (.aload_n 0, 1) := by decide +kernel
theorem dX6_folds_102 : decode cX6_folds 102 = .ok (.getfield 47, 3) := by decide +kernel
theorem dX6_folds_105 : decode cX6_folds 105 = .ok (.iload_n 1, 1) := by decide +kernel
theorem dX6_folds_106 : decode cX6_folds 106 = .ok (.iaload, 1) := by decide +kernel
theorem dX6_folds_107 : decode cX6_folds 107 = .ok (.iadd, 1) := by decide +kernel
theorem dX6_folds_108 : decode cX6_folds 108 = .ok (.aload_n 0, 1) := by decide +kernel
theorem dX6_folds_109 : decode cX6_folds 109 = .ok (.getfield 69, 3) := by decide +kernel
theorem dX6_folds_112 : decode cX6_folds 112 = .ok (.iload_n 2, 1) := by decide +kernel
theorem dX6_folds_113 : decode cX6_folds 113 = .ok (.aload_n 0, 1) := by decide +kernel
theorem dX6_folds_114 : decode cX6_folds 114 = .ok (.getfield 47, 3) := by decide +kernel
theorem dX6_folds_117 : decode cX6_folds 117 = .ok (.iload_n 1, 1) := by decide +kernel
theorem dX6_folds_118 : decode cX6_folds 118 = .ok (.iaload, 1) := by decide +kernel
theorem dX6_folds_119 : decode cX6_folds 119 = .ok (.iadd, 1) := by decide +kernel
theorem dX6_folds_120 : decode cX6_folds 120 = .ok (.iaload, 1) := by decide +kernel
theorem dX6_folds_121 : decode cX6_folds 121 = .ok (.iastore, 1) := by decide +kernel
theorem dX6_folds_122 : decode cX6_folds 122 = .ok (.aload_n 0, 1) := by decide +kernel
theorem dX6_folds_123 : decode cX6_folds 123 = .ok (.getfield 72, 3) := by decide +kernel
theorem dX6_folds_126 : decode cX6_folds 126 = .ok (.iload_n 1, 1) := by decide +kernel
theorem dX6_folds_127 : decode cX6_folds 127 = .ok (.dup2, 1) := by decide +kernel
theorem dX6_folds_128 : decode cX6_folds 128 = .ok (.iaload, 1) := by decide +kernel
theorem dX6_folds_129 : decode cX6_folds 129 = .ok (.iconst 1, 1) := by decide +kernel
theorem dX6_folds_130 : decode cX6_folds 130 = .ok (.iadd, 1) := by decide +kernel
theorem dX6_folds_131 : decode cX6_folds 131 = .ok (.iastore, 1) := by decide +kernel
theorem dX6_folds_132 : decode cX6_folds 132 = .ok (.aload_n 0, 1) := by decide +kernel
theorem dX6_folds_133 : decode cX6_folds 133 = .ok (.getfield 69, 3) := by decide +kernel
theorem dX6_folds_136 : decode cX6_folds 136 = .ok (.iload 4, 2) := by decide +kernel
theorem dX6_folds_138 : decode cX6_folds 138 = .ok (.aload_n 0, 1) := by decide +kernel
theorem dX6_folds_139 : decode cX6_folds 139 = .ok (.getfield 50, 3) := by decide +kernel
theorem dX6_folds_142 : decode cX6_folds 142 = .ok (.iload_n 1, 1) := by decide +kernel
theorem dX6_folds_143 : decode cX6_folds 143 = .ok (.iaload, 1) := by decide +kernel
theorem dX6_folds_144 : decode cX6_folds 144 = .ok (.iadd, 1) := by decide +kernel
theorem dX6_folds_145 : decode cX6_folds 145 = .ok (.aload_n 0, 1) := by decide +kernel
theorem dX6_folds_146 : decode cX6_folds 146 = .ok (.getfield 69, 3) := by decide +kernel
theorem dX6_folds_149 : decode cX6_folds 149 = .ok (.iload 4, 2) := by decide +kernel
theorem dX6_folds_151 : decode cX6_folds 151 = .ok (.aload_n 0, 1) := by decide +kernel
theorem dX6_folds_152 : decode cX6_folds 152 = .ok (.getfield 50, 3) := by decide +kernel
theorem dX6_folds_155 : decode cX6_folds 155 = .ok (.iload_n 1, 1) := by decide +kernel
theorem dX6_folds_156 : decode cX6_folds 156 = .ok (.iaload, 1) := by decide +kernel
theorem dX6_folds_157 : decode cX6_folds 157 = .ok (.iadd, 1) := by decide +kernel
theorem dX6_folds_158 : decode cX6_folds 158 = .ok (.iaload, 1) := by decide +kernel
theorem dX6_folds_159 : decode cX6_folds 159 = .ok (.aload_n 0, 1) := by decide +kernel
theorem dX6_folds_160 : decode cX6_folds 160 = .ok (.getfield 69, 3) := by decide +kernel
theorem dX6_folds_163 : decode cX6_folds 163 = .ok (.iload_n 2, 1) := by decide +kernel
theorem dX6_folds_164 : decode cX6_folds 164 = .ok (.aload_n 0, 1) := by decide +kernel
theorem dX6_folds_165 : decode cX6_folds 165 = .ok (.getfield 50, 3) := by decide +kernel
