theorem dX3_init_0 : decode cX3_init 0 = .ok (.aload_n 0, 1) := by decide +kernel
theorem dX3_init_1 : decode cX3_init 1 = .ok (.invokespecial 5, 3) := by decide +kernel
theorem dX3_init_4 : decode cX3_init 4 = .ok (.aload_n 0, 1) := by decide +kernel
theorem dX3_init_5 : decode cX3_init 5 = .ok (.bipush 120, 2) := by decide +kernel
theorem dX3_init_7 : decode cX3_init 7 = .ok (.newarray .int, 2) := by decide +kernel
theorem dX3_init_9 : decode cX3_init 9 = .ok (.putfield 13, 3) := by decide +kernel
theorem dX3_init_12 : decode cX3_init 12 = .ok (.aload_n 0, 1) := by decide +kernel
theorem dX3_init_13 : decode cX3_init 13 = .ok (.bipush 60, 2) := by decide +kernel
theorem dX3_init_15 : decode cX3_init 15 = .ok (.newarray .int, 2) := by decide +kernel
theorem dX3_init_17 : decode cX3_init 17 = .ok (.putfield 17, 3) := by decide +kernel
theorem dX3_init_20 : decode cX3_init 20 = .ok (.aload_n 0, 1) := by decide +kernel
theorem dX3_init_21 : decode cX3_init 21 = .ok (.bipush 60, 2) := by decide +kernel
theorem dX3_init_23 : decode cX3_init 23 = .ok (.newarray .int, 2) := by decide +kernel
theorem dX3_init_25 : decode cX3_init 25 = .ok (.putfield 20, 3) := by decide +kernel
theorem dX3_init_28 : decode cX3_init 28 = .ok (.aload_n 0, 1) := by decide +kernel
theorem dX3_init_29 : decode cX3_init 29 = .ok (.iconst (-1), 1) := by decide +kernel
theorem dX3_init_30 : decode cX3_init 30 = .ok (.putfield 23, 3) := by decide +kernel
theorem dX3_init_33 : decode cX3_init 33 = .ok (.aload_n 0, 1) := by decide +kernel
theorem dX3_init_34 : decode cX3_init 34 = .ok (.aload_n 1, 1) := by decide +kernel
theorem dX3_init_35 : decode cX3_init 35 = .ok (.putfield 27, 3) := by decide +kernel
theorem dX3_init_38 : decode cX3_init 38 = .ok (.aload_n 0, 1) := by decide +kernel
theorem dX3_init_39 : decode cX3_init 39 = .ok (.aload_n 2, 1) := by decide +kernel
theorem dX3_init_40 : decode cX3_init 40 = .ok (.putfield 31, 3) := by decide +kernel
theorem dX3_init_43 : decode cX3_init 43 = .ok (.aload_n 0, 1) := by decide +kernel
theorem dX3_init_44 : decode cX3_init 44 = .ok (.aload_n 3, 1) := by decide +kernel
theorem dX3_init_45 : decode cX3_init 45 = .ok (.putfield 35, 3) := by decide +kernel
theorem dX3_init_48 : decode cX3_init 48 = .ok (.return_, 1) := by decide +kernel
theorem dX3_give_0 : decode cX3_give 0 = .ok (.aload_n 0, 1) := by decide +kernel
theorem dX3_give_1 : decode cX3_give 1 = .ok (.iconst 0, 1) := by decide +kernel
theorem dX3_give_2 : decode cX3_give 2 = .ok (.putfield 39, 3) := by decide +kernel
theorem dX3_give_5 : decode cX3_give 5 = .ok (.aload_n 0, 1) := by decide +kernel
theorem dX3_give_6 : decode cX3_give 6 = .ok (.iconst 0, 1) := by decide +kernel
theorem dX3_give_7 : decode cX3_give 7 = .ok (.putfield 42, 3) := by decide +kernel
theorem dX3_give_10 : decode cX3_give 10 = .ok (.aload_n 0, 1) := by decide +kernel
theorem dX3_give_11 : decode cX3_give 11 = .ok (.iconst 0, 1) := by decide +kernel
theorem dX3_give_12 : decode cX3_give 12 = .ok (.putfield 45, 3) := by decide +kernel
theorem dX3_give_15 : decode cX3_give 15 = .ok (.aload_n 0, 1) := by decide +kernel
theorem dX3_give_16 : decode cX3_give 16 = .ok (.iconst 0, 1) := by decide +kernel
theorem dX3_give_17 : decode cX3_give 17 = .ok (.putfield 48, 3) := by decide +kernel
theorem dX3_give_20 : decode cX3_give 20 = .ok (.aload_n 0, 1) := by decide +kernel
theorem dX3_give_21 : decode cX3_give 21 = .ok (.iconst (-1), 1) := by decide +kernel
theorem dX3_give_22 : decode cX3_give 22 = .ok (.putfield 23, 3) := by decide +kernel
theorem dX3_give_25 : decode cX3_give 25 = .ok (.aload_n 0, 1) := by decide +kernel
theorem dX3_give_26 : decode cX3_give 26 = .ok (.getfield 35, 3) := by decide +kernel
theorem dX3_give_29 : decode cX3_give 29 = .ok (.iload_n 1, 1) := by decide +kernel
theorem dX3_give_30 : decode cX3_give 30 = .ok (.invokevirtual 51, 3) := by decide +kernel
theorem dX3_give_33 : decode cX3_give 33 = .ok (.istore_n 2, 1) := by decide +kernel
theorem dX3_give_34 : decode cX3_give 34 = .ok (.iconst 0, 1) := by decide +kernel
theorem dX3_give_35 : decode cX3_give 35 = .ok (.istore_n 3, 1) := by decide +kernel
theorem dX3_give_36 : decode cX3_give 36 = .ok (.iload_n 3, 1) := by decide +kernel
theorem dX3_give_37 : decode cX3_give 37 = .ok (.iload_n 2, 1) := by decide +kernel
theorem dX3_give_38 : decode cX3_give 38 = .ok (.if_icmp .ge 82, 3) := by decide +kernel
theorem dX3_give_41 : decode cX3_give 41 = .ok (.aload_n 0, 1) := by decide +kernel
theorem dX3_give_42 : decode cX3_give 42 = .ok (.getfield 42, 3) := by decide +kernel
theorem dX3_give_45 : decode cX3_give 45 = .ok (.ifCond .ne 75, 3) := by decide +kernel
theorem dX3_give_48 : decode cX3_give 48 = .ok (.aload_n 0, 1) := by decide +kernel
theorem dX3_give_49 : decode cX3_give 49 = .ok (.getfield 35, 3) := by decide +kernel
theorem dX3_give_52 : decode cX3_give 52 = .ok (.getfield 55, 3) := by decide +kernel
theorem dX3_give_55 : decode cX3_give 55 = .ok (.iload_n 3, 1) := by decide +kernel
theorem dX3_give_56 : decode cX3_give 56 = .ok (.iaload, 1) := by decide +kernel
theorem dX3_give_57 : decode cX3_give 57 = .ok (.istore 4, 2) := by decide +kernel
theorem dX3_give_59 : decode cX3_give 59 = .ok (.aload_n 0, 1) := by decide +kernel
theorem dX3_give_60 : decode cX3_give 60 = .ok (.dup, 1) := by decide +kernel
theorem dX3_give_61 : decode cX3_give 61 = .ok (.getfield 48, 3) := by decide +kernel
theorem dX3_give_64 : decode cX3_give 64 = .ok (.iconst 1, 1) := by decide +kernel
theorem dX3_give_65 : decode cX3_give 65 = .ok (.iadd, 1) := by decide +kernel
theorem dX3_give_66 : decode cX3_give 66 = .ok (.putfield 48, 3) := by decide +kernel
theorem dX3_give_69 : decode cX3_give 69 = .ok (.aload_n 0, 1) := by decide +kernel
theorem dX3_give_70 : decode cX3_give 70 = .ok (.getfield 17, 3) := by decide +kernel
theorem dX3_give_73 : decode cX3_give 73 = .ok (.iload 4, 2) := by decide +kernel
theorem dX3_give_75 : decode cX3_give 75 = .ok (.aload_n 0, 1) := by decide +kernel
theorem dX3_give_76 : decode cX3_give 76 = .ok (.getfield 39, 3) := by decide +kernel
theorem dX3_give_79 : decode cX3_give 79 = .ok (.iastore, 1) := by decide +kernel
theorem dX3_give_80 : decode cX3_give 80 = .ok (.aload_n 0, 1) := by decide +kernel
theorem dX3_give_81 : decode cX3_give 81 = .ok (.iload 4, 2) := by decide +kernel
theorem dX3_give_83 : decode cX3_give 83 = .ok (.invokevirtual 58, 3) := by decide +kernel
theorem dX3_give_86 : decode cX3_give 86 = .ok (.aload_n 0, 1) := by decide +kernel
theorem dX3_give_87 : decode cX3_give 87 = .ok (.getfield 20, 3) := by decide +kernel
theorem dX3_give_90 : decode cX3_give 90 = .ok (.iload 4, 2) := by decide +kernel
theorem dX3_give_92 : decode cX3_give 92 = .ok (.aload_n 0, 1) := by decide +kernel
theorem dX3_give_93 : decode cX3_give 93 = .ok (.getfield 39, 3) := by decide +kernel
theorem dX3_give_96 : decode cX3_give 96 = .ok (.iastore, 1) := by decide +kernel
theorem dX3_give_97 : decode cX3_give 97 = .ok (.aload_n 0, 1) := by decide +kernel
theorem dX3_give_98 : decode cX3_give 98 = .ok (.aload_n 0, 1) := by decide +kernel
theorem dX3_give_99 : decode cX3_give 99 = .ok (.getfield 42, 3) := by decide +kernel
theorem dX3_give_102 : decode cX3_give 102 = .ok (.ifCond .ne 7, 3) := by decide +kernel
theorem dX3_give_105 : decode cX3_give 105 = .ok (.iconst (-1), 1) := by decide +kernel
theorem dX3_give_106 : decode cX3_give 106 = .ok (.goto 5, 3) := by decide +kernel
theorem dX3_give_109 : decode cX3_give 109 = .ok (.iload 4, 2) := by decide +kernel
theorem dX3_give_111 : decode cX3_give 111 = .ok (.putfield 23, 3) := by decide +kernel
theorem dX3_give_114 : decode cX3_give 114 = .ok (.iinc 3 1, 3) := by decide +kernel
theorem dX3_give_117 : decode cX3_give 117 = .ok (.goto (-81), 3) := by decide +kernel
theorem dX3_give_120 : decode cX3_give 120 = .ok (.aload_n 0, 1) := by decide +kernel
theorem dX3_give_121 : decode cX3_give 121 = .ok (.aload_n 0, 1) := by decide +kernel
theorem dX3_give_122 : decode cX3_give 122 = .ok (.getfield 17, 3) := by decide +kernel
theorem dX3_give_125 : decode cX3_give 125 = .ok (.iload_n 1, 1) := by decide +kernel
theorem dX3_give_126 : decode cX3_give 126 = .ok (.iaload, 1) := by decide +kernel
theorem dX3_give_127 : decode cX3_give 127 = .ok (.putfield 62, 3) := by decide +kernel
theorem dX3_give_130 : decode cX3_give 130 = .ok (.aload_n 0, 1) := by decide +kernel
theorem dX3_give_131 : decode cX3_give 131 = .ok (.aload_n 0, 1) := by decide +kernel
theorem dX3_give_132 : decode cX3_give 132 = .ok (.getfield 42, 3) := by decide +kernel
theorem dX3_give_135 : decode cX3_give 135 = .ok (.ifCond .ne 22, 3) := by decide +kernel
theorem dX3_give_138 : decode cX3_give 138 = .ok (.aload_n 0, 1) := by decide +kernel
theorem dX3_give_139 : decode cX3_give 139 = .ok (.getfield 20, 3) := by decide +kernel
theorem dX3_give_142 : decode cX3_give 142 = .ok (.iload_n 1, 1) := by decide +kernel
theorem dX3_give_143 : decode cX3_give 143 = .ok (.iaload, 1) := by decide +kernel
theorem dX3_give_144 : decode cX3_give 144 = .ok (.aload_n 0, 1) := by decide +kernel
theorem dX3_give_145 : decode cX3_give 145 = .ok (.getfield 17, 3) := by decide +kernel
theorem dX3_give_148 : decode cX3_give 148 = .ok (.iload_n 1, 1) := by decide +kernel
theorem dX3_give_149 : decode cX3_give 149 = .ok (.iaload, 1) := by decide +kernel
theorem dX3_give_150 : decode cX3_give 150 = .ok (.isub, 1) := by decide +kernel
theorem dX3_give_151 : decode cX3_give 151 = .ok (.bipush 6, 2) := by decide +kernel
theorem dX3_give_153 : decode cX3_give 153 = .ok (.idiv, 1) := by decide +kernel
theorem dX3_give_154 : decode cX3_give 154 = .ok (.goto 4, 3) := by decide +kernel
theorem dX3_give_157 : decode cX3_give 157 = .ok (.iconst 0, 1) := by decide +kernel
theorem dX3_give_158 : decode cX3_give 158 = .ok (.putfield 65, 3) := by decide +kernel
theorem dX3_give_161 : decode cX3_give 161 = .ok (.aload_n 0, 1) := by decide +kernel
theorem dX3_give_162 : decode cX3_give 162 = .ok (.getfield 42, 3) := by decide +kernel
theorem dX3_give_165 : decode cX3_give 165 = .ok (.ifCond .ne 10, 3) := by decide +kernel
theorem dX3_give_168 : decode cX3_give 168 = .ok (.aload_n 0, 1) := by decide +kernel
theorem dX3_give_169 : decode cX3_give 169 = .ok (.getfield 65, 3) := by decide +kernel
theorem dX3_give_172 : decode cX3_give 172 = .ok (.goto 10, 3) := by decide +kernel
theorem dX3_give_175 : decode cX3_give 175 = .ok (.bipush (-10), 2) := by decide +kernel
theorem dX3_give_177 : decode cX3_give 177 = .ok (.aload_n 0, 1) := by decide +kernel
theorem dX3_give_178 : decode cX3_give 178 = .ok (.getfield 42, 3) := by decide +kernel
theorem dX3_give_181 : decode cX3_give 181 = .ok (.isub, 1) := by decide +kernel
theorem dX3_give_182 : decode cX3_give 182 = .ok (.ireturn, 1) := by decide +kernel
theorem dX3_given_0 : decode cX3_given 0 = .ok (.iload_n 1, 1) := by decide +kernel
theorem dX3_given_1 : decode cX3_given 1 = .ok (.ifCond .lt 11, 3) := by decide +kernel
theorem dX3_given_4 : decode cX3_given 4 = .ok (.iload_n 1, 1) := by decide +kernel
theorem dX3_given_5 : decode cX3_given 5 = .ok (.aload_n 0, 1) := by decide +kernel
theorem dX3_given_6 : decode cX3_given 6 = .ok (.getfield 65, 3) := by decide +kernel
theorem dX3_given_9 : decode cX3_given 9 = .ok (.if_icmp .lt 5, 3) := by decide +kernel
theorem dX3_given_12 : decode cX3_given 12 = .ok (.iconst 0, 1) := by decide +kernel
theorem dX3_given_13 : decode cX3_given 13 = .ok (.ireturn, 1) := by decide +kernel
theorem dX3_given_14 : decode cX3_given 14 = .ok (.aload_n 0, 1) := by decide +kernel
theorem dX3_given_15 : decode cX3_given 15 = .ok (.getfield 13, 3) := by decide +kernel
theorem dX3_given_18 : decode cX3_given 18 = .ok (.aload_n 0, 1) := by decide +kernel
theorem dX3_given_19 : decode cX3_given 19 = .ok (.getfield 62, 3) := by decide +kernel
theorem dX3_given_22 : decode cX3_given 22 = .ok (.iload_n 1, 1) := by decide +kernel
theorem dX3_given_23 : decode cX3_given 23 = .ok (.bipush 6, 2) := by decide +kernel
theorem dX3_given_25 : decode cX3_given 25 = .ok (.imul, 1) := by decide +kernel
theorem dX3_given_26 : decode cX3_given 26 = .ok (.iadd, 1) := by decide +kernel
theorem dX3_given_27 : decode cX3_given 27 = .ok (.iload_n 2, 1) := by decide +kernel
theorem dX3_given_28 : decode cX3_given 28 = .ok (.iadd, 1) := by decide +kernel
theorem dX3_given_29 : decode cX3_given 29 = .ok (.iaload, 1) := by decide +kernel
theorem dX3_given_30 : decode cX3_given 30 = .ok (.ireturn, 1) := by decide +kernel
theorem dX3_work_0 : decode cX3_work 0 = .ok (.aload_n 0, 1) := by decide +kernel
theorem dX3_work_1 : decode cX3_work 1 = .ok (.getfield 35, 3) := by decide +kernel
theorem dX3_work_4 : decode cX3_work 4 = .ok (.getfield 68, 3) := by decide +kernel
theorem dX3_work_7 : decode cX3_work 7 = .ok (.iload_n 1, 1) := by decide +kernel
theorem dX3_work_8 : decode cX3_work 8 = .ok (.iaload, 1) := by decide +kernel
theorem dX3_work_9 : decode cX3_work 9 = .ok (.istore_n 2, 1) := by decide +kernel
theorem dX3_work_10 : decode cX3_work 10 = .ok (.aload_n 0, 1) := by decide +kernel
theorem dX3_work_11 : decode cX3_work 11 = .ok (.getfield 35, 3) := by decide +kernel
theorem dX3_work_14 : decode cX3_work 14 = .ok (.getfield 71, 3) := by decide +kernel
theorem dX3_work_17 : decode cX3_work 17 = .ok (.iload_n 1, 1) := by decide +kernel
theorem dX3_work_18 : decode cX3_work 18 = .ok (.iaload, 1) := by decide +kernel
theorem dX3_work_19 : decode cX3_work 19 = .ok (.tableswitch 207 0 7 #[45, 53, 70, 96, 113, 148, 173, 199], 45) := by decide +kernel
theorem dX3_work_64 : decode cX3_work 64 = .ok (.aload_n 0, 1) := by decide +kernel
theorem dX3_work_65 : decode cX3_work 65 = .ok (.iload_n 2, 1) := by decide +kernel
theorem dX3_work_66 : decode cX3_work 66 = .ok (.invokevirtual 74, 3) := by decide +kernel
theorem dX3_work_69 : decode cX3_work 69 = .ok (.goto 171, 3) := by decide +kernel
theorem dX3_work_72 : decode cX3_work 72 = .ok (.aload_n 0, 1) := by decide +kernel
theorem dX3_work_73 : decode cX3_work 73 = .ok (.iload_n 2, 1) := by decide +kernel
theorem dX3_work_74 : decode cX3_work 74 = .ok (.aload_n 0, 1) := by decide +kernel
theorem dX3_work_75 : decode cX3_work 75 = .ok (.getfield 35, 3) := by decide +kernel
theorem dX3_work_78 : decode cX3_work 78 = .ok (.getfield 77, 3) := by decide +kernel
theorem dX3_work_81 : decode cX3_work 81 = .ok (.iload_n 1, 1) := by decide +kernel
theorem dX3_work_82 : decode cX3_work 82 = .ok (.iaload, 1) := by decide +kernel
theorem dX3_work_83 : decode cX3_work 83 = .ok (.invokevirtual 80, 3) := by decide +kernel
theorem dX3_work_86 : decode cX3_work 86 = .ok (.goto 154, 3) := by decide +kernel
theorem dX3_work_89 : decode cX3_work 89 = .ok (.aload_n 0, 1) := by decide +kernel
theorem dX3_work_90 : decode cX3_work 90 = .ok (.iload_n 2, 1) := by decide +kernel
theorem dX3_work_91 : decode cX3_work 91 = .ok (.aload_n 0, 1) := by decide +kernel
theorem dX3_work_92 : decode cX3_work 92 = .ok (.getfield 35, 3) := by decide +kernel
theorem dX3_work_95 : decode cX3_work 95 = .ok (.getfield 84, 3) := by decide +kernel
theorem dX3_work_98 : decode cX3_work 98 = .ok (.iload_n 1, 1) := by decide +kernel
theorem dX3_work_99 : decode cX3_work 99 = .ok (.iaload, 1) := by decide +kernel
theorem dX3_work_100 : decode cX3_work 100 = .ok (.aload_n 0, 1) := by decide +kernel
theorem dX3_work_101 : decode cX3_work 101 = .ok (.getfield 35, 3) := by decide +kernel
theorem dX3_work_104 : decode cX3_work 104 = .ok (.getfield 77, 3) := by decide +kernel
theorem dX3_work_107 : decode cX3_work 107 = .ok (.iload_n 1, 1) := by decide +kernel
theorem dX3_work_108 : decode cX3_work 108 = .ok (.iaload, 1) := by decide +kernel
theorem dX3_work_109 : decode cX3_work 109 = .ok (.invokevirtual 87, 3) := by decide +kernel
theorem dX3_work_112 : decode cX3_work 112 = .ok (.goto 128, 3) := by decide +kernel
theorem dX3_work_115 : decode cX3_work 115 = .ok (.aload_n 0, 1) := by decide +kernel
theorem dX3_work_116 : decode cX3_work 116 = .ok (.iload_n 2, 1) := by decide +kernel
theorem dX3_work_117 : decode cX3_work 117 = .ok (.aload_n 0, 1) := by decide +kernel
theorem dX3_work_118 : decode cX3_work 118 = .ok (.getfield 35, 3) := by decide +kernel
theorem dX3_work_121 : decode cX3_work 121 = .ok (.getfield 77, 3) := by decide +kernel
theorem dX3_work_124 : decode cX3_work 124 = .ok (.iload_n 1, 1) := by decide +kernel
theorem dX3_work_125 : decode cX3_work 125 = .ok (.iaload, 1) := by decide +kernel
theorem dX3_work_126 : decode cX3_work 126 = .ok (.invokevirtual 91, 3) := by decide +kernel
theorem dX3_work_129 : decode cX3_work 129 = .ok (.goto 111, 3) := by decide +kernel
theorem dX3_work_132 : decode cX3_work 132 = .ok (.aload_n 0, 1) := by decide +kernel
theorem dX3_work_133 : decode cX3_work 133 = .ok (.iload_n 2, 1) := by decide +kernel
theorem dX3_work_134 : decode cX3_work 134 = .ok (.aload_n 0, 1) := by decide +kernel
theorem dX3_work_135 : decode cX3_work 135 = .ok (.getfield 35, 3) := by decide +kernel
theorem dX3_work_138 : decode cX3_work 138 = .ok (.getfield 94, 3) := by decide +kernel
theorem dX3_work_141 : decode cX3_work 141 = .ok (.iload_n 1, 1) := by decide +kernel
theorem dX3_work_142 : decode cX3_work 142 = .ok (.iaload, 1) := by decide +kernel
theorem dX3_work_143 : decode cX3_work 143 = .ok (.aload_n 0, 1) := by decide +kernel
theorem dX3_work_144 : decode cX3_work 144 = .ok (.getfield 35, 3) := by decide +kernel
theorem dX3_work_147 : decode cX3_work 147 = .ok (.getfield 84, 3) := by decide +kernel
theorem dX3_work_150 : decode cX3_work 150 = .ok (.iload_n 1, 1) := by decide +kernel
theorem dX3_work_151 : decode cX3_work 151 = .ok (.iaload, 1) := by decide +kernel
theorem dX3_work_152 : decode cX3_work 152 = .ok (.aload_n 0, 1) := by decide +kernel
theorem dX3_work_153 : decode cX3_work 153 = .ok (.getfield 35, 3) := by decide +kernel
theorem dX3_work_156 : decode cX3_work 156 = .ok (.getfield 77, 3) := by decide +kernel
theorem dX3_work_159 : decode cX3_work 159 = .ok (.iload_n 1, 1) := by decide +kernel
theorem dX3_work_160 : decode cX3_work 160 = .ok (.iaload, 1) := by decide +kernel
theorem dX3_work_161 : decode cX3_work 161 = .ok (.invokevirtual 97, 3) := by decide +kernel
theorem dX3_work_164 : decode cX3_work 164 = .ok (.goto 76, 3) := by decide +kernel
theorem dX3_work_167 : decode cX3_work 167 = .ok (.aload_n 0, 1) := by decide +kernel
theorem dX3_work_168 : decode cX3_work 168 = .ok (.iload_n 2, 1) := by decide +kernel
theorem dX3_work_169 : decode cX3_work 169 = .ok (.bipush 100, 2) := by decide +kernel
theorem dX3_work_171 : decode cX3_work 171 = .ok (.invokevirtual 101, 3) := by decide +kernel
theorem dX3_work_174 : decode cX3_work 174 = .ok (.aload_n 0, 1) := by decide +kernel
theorem dX3_work_175 : decode cX3_work 175 = .ok (.aload_n 0, 1) := by decide +kernel
theorem dX3_work_176 : decode cX3_work 176 = .ok (.getfield 35, 3) := by decide +kernel
theorem dX3_work_179 : decode cX3_work 179 = .ok (.getfield 94, 3) := by decide +kernel
theorem dX3_work_182 : decode cX3_work 182 = .ok (.iload_n 1, 1) := by decide +kernel
theorem dX3_work_183 : decode cX3_work 183 = .ok (.iaload, 1) := by decide +kernel
theorem dX3_work_184 : decode cX3_work 184 = .ok (.bipush 100, 2) := by decide +kernel
theorem dX3_work_186 : decode cX3_work 186 = .ok (.invokevirtual 101, 3) := by decide +kernel
theorem dX3_work_189 : decode cX3_work 189 = .ok (.goto 51, 3) := by decide +kernel
theorem dX3_work_192 : decode cX3_work 192 = .ok (.aload_n 0, 1) := by decide +kernel
theorem dX3_work_193 : decode cX3_work 193 = .ok (.iload_n 2, 1) := by decide +kernel
theorem dX3_work_194 : decode cX3_work 194 = .ok (.aload_n 0, 1) := by decide +kernel
theorem dX3_work_195 : decode cX3_work 195 = .ok (.getfield 35, 3) := by decide +kernel
theorem dX3_work_198 : decode cX3_work 198 = .ok (.getfield 84, 3) := by decide +kernel
theorem dX3_work_201 : decode cX3_work 201 = .ok (.iload_n 1, 1) := by decide +kernel
theorem dX3_work_202 : decode cX3_work 202 = .ok (.iaload, 1) := by decide +kernel
theorem dX3_work_203 : decode cX3_work 203 = .ok (.aload_n 0, 1) := by decide +kernel
theorem dX3_work_204 : decode cX3_work 204 = .ok (.getfield 35, 3) := by decide +kernel
theorem dX3_work_207 : decode cX3_work 207 = .ok (.getfield 77, 3) := by decide +kernel
theorem dX3_work_210 : decode cX3_work 210 = .ok (.iload_n 1, 1) := by decide +kernel
theorem dX3_work_211 : decode cX3_work 211 = .ok (.iaload, 1) := by decide +kernel
theorem dX3_work_212 : decode cX3_work 212 = .ok (.invokevirtual 104, 3) := by decide +kernel
theorem dX3_work_215 : decode cX3_work 215 = .ok (.goto 25, 3) := by decide +kernel
theorem dX3_work_218 : decode cX3_work 218 = .ok (.aload_n 0, 1) := by decide +kernel
theorem dX3_work_219 : decode cX3_work 219 = .ok (.iload_n 2, 1) := by decide +kernel
theorem dX3_work_220 : decode cX3_work 220 = .ok (.invokevirtual 107, 3) := by decide +kernel
theorem dX3_work_223 : decode cX3_work 223 = .ok (.goto 17, 3) := by decide +kernel
theorem dX3_work_226 : decode cX3_work 226 = .ok (.aload_n 0, 1) := by decide +kernel
theorem dX3_work_227 : decode cX3_work 227 = .ok (.iload_n 2, 1) := by decide +kernel
theorem dX3_work_228 : decode cX3_work 228 = .ok (.aload_n 0, 1) := by decide +kernel
theorem dX3_work_229 : decode cX3_work 229 = .ok (.getfield 35, 3) := by decide +kernel
theorem dX3_work_232 : decode cX3_work 232 = .ok (.getfield 77, 3) := by decide +kernel
theorem dX3_work_235 : decode cX3_work 235 = .ok (.iload_n 1, 1) := by decide +kernel
theorem dX3_work_236 : decode cX3_work 236 = .ok (.iaload, 1) := by decide +kernel
theorem dX3_work_237 : decode cX3_work 237 = .ok (.invokevirtual 101, 3) := by decide +kernel
theorem dX3_work_240 : decode cX3_work 240 = .ok (.return_, 1) := by decide +kernel
theorem dX3_giveSource_0 : decode cX3_giveSource 0 = .ok (.iconst 0, 1) := by decide +kernel
theorem dX3_giveSource_1 : decode cX3_giveSource 1 = .ok (.istore_n 2, 1) := by decide +kernel
theorem dX3_giveSource_2 : decode cX3_giveSource 2 = .ok (.iload_n 2, 1) := by decide +kernel
theorem dX3_giveSource_3 : decode cX3_giveSource 3 = .ok (.aload_n 0, 1) := by decide +kernel
theorem dX3_giveSource_4 : decode cX3_giveSource 4 = .ok (.getfield 27, 3) := by decide +kernel
theorem dX3_giveSource_7 : decode cX3_giveSource 7 = .ok (.getfield 110, 3) := by decide +kernel
theorem dX3_giveSource_10 : decode cX3_giveSource 10 = .ok (.iload_n 1, 1) := by decide +kernel
theorem dX3_giveSource_11 : decode cX3_giveSource 11 = .ok (.iaload, 1) := by decide +kernel
theorem dX3_giveSource_12 : decode cX3_giveSource 12 = .ok (.if_icmp .ge 39, 3) := by decide +kernel
theorem dX3_giveSource_15 : decode cX3_giveSource 15 = .ok (.aload_n 0, 1) := by decide +kernel
theorem dX3_giveSource_16 : decode cX3_giveSource 16 = .ok (.invokevirtual 115, 3) := by decide +kernel
theorem dX3_giveSource_19 : decode cX3_giveSource 19 = .ok (.istore_n 3, 1) := by decide +kernel
theorem dX3_giveSource_20 : decode cX3_giveSource 20 = .ok (.aload_n 0, 1) := by decide +kernel
theorem dX3_giveSource_21 : decode cX3_giveSource 21 = .ok (.getfield 27, 3) := by decide +kernel
theorem dX3_giveSource_24 : decode cX3_giveSource 24 = .ok (.getfield 119, 3) := by decide +kernel
theorem dX3_giveSource_27 : decode cX3_giveSource 27 = .ok (.aload_n 0, 1) := by decide +kernel
theorem dX3_giveSource_28 : decode cX3_giveSource 28 = .ok (.getfield 27, 3) := by decide +kernel
theorem dX3_giveSource_31 : decode cX3_giveSource 31 = .ok (.iload_n 1, 1) := by decide +kernel
theorem dX3_giveSource_32 : decode cX3_giveSource 32 = .ok (.iload_n 2, 1) := by decide +kernel
theorem dX3_giveSource_33 : decode cX3_giveSource 33 = .ok (.invokevirtual 120, 3) := by decide +kernel
theorem dX3_giveSource_36 : decode cX3_giveSource 36 = .ok (.aload_n 0, 1) := by decide +kernel
theorem dX3_giveSource_37 : decode cX3_giveSource 37 = .ok (.getfield 13, 3) := by decide +kernel
theorem dX3_giveSource_40 : decode cX3_giveSource 40 = .ok (.iload_n 3, 1) := by decide +kernel
theorem dX3_giveSource_41 : decode cX3_giveSource 41 = .ok (.iconst 3, 1) := by decide +kernel
theorem dX3_giveSource_42 : decode cX3_giveSource 42 = .ok (.invokestatic 124, 3) := by decide +kernel
theorem dX3_giveSource_45 : decode cX3_giveSource 45 = .ok (.iinc 2 1, 3) := by decide +kernel
theorem dX3_giveSource_48 : decode cX3_giveSource 48 = .ok (.goto (-46), 3) := by decide +kernel
theorem dX3_giveSource_51 : decode cX3_giveSource 51 = .ok (.return_, 1) := by decide +kernel
theorem dX3_giveFiltered_0 : decode cX3_giveFiltered 0 = .ok (.aload_n 0, 1) := by decide +kernel
theorem dX3_giveFiltered_1 : decode cX3_giveFiltered 1 = .ok (.getfield 17, 3) := by decide +kernel
theorem dX3_giveFiltered_4 : decode cX3_giveFiltered 4 = .ok (.iload_n 1, 1) := by decide +kernel
theorem dX3_giveFiltered_5 : decode cX3_giveFiltered 5 = .ok (.iaload, 1) := by decide +kernel
theorem dX3_giveFiltered_6 : decode cX3_giveFiltered 6 = .ok (.istore_n 3, 1) := by decide +kernel
theorem dX3_giveFiltered_7 : decode cX3_giveFiltered 7 = .ok (.iload_n 3, 1) := by decide +kernel
theorem dX3_giveFiltered_8 : decode cX3_giveFiltered 8 = .ok (.aload_n 0, 1) := by decide +kernel
theorem dX3_giveFiltered_9 : decode cX3_giveFiltered 9 = .ok (.getfield 20, 3) := by decide +kernel
theorem dX3_giveFiltered_12 : decode cX3_giveFiltered 12 = .ok (.iload_n 1, 1) := by decide +kernel
theorem dX3_giveFiltered_13 : decode cX3_giveFiltered 13 = .ok (.iaload, 1) := by decide +kernel
theorem dX3_giveFiltered_14 : decode cX3_giveFiltered 14 = .ok (.if_icmp .ge 36, 3) := by decide +kernel
theorem dX3_giveFiltered_17 : decode cX3_giveFiltered 17 = .ok (.aload_n 0, 1) := by decide +kernel
theorem dX3_giveFiltered_18 : decode cX3_giveFiltered 18 = .ok (.iload_n 2, 1) := by decide +kernel
theorem dX3_giveFiltered_19 : decode cX3_giveFiltered 19 = .ok (.iload_n 3, 1) := by decide +kernel
theorem dX3_giveFiltered_20 : decode cX3_giveFiltered 20 = .ok (.invokevirtual 130, 3) := by decide +kernel
theorem dX3_giveFiltered_23 : decode cX3_giveFiltered 23 = .ok (.istore 4, 2) := by decide +kernel
theorem dX3_giveFiltered_25 : decode cX3_giveFiltered 25 = .ok (.aload_n 0, 1) := by decide +kernel
theorem dX3_giveFiltered_26 : decode cX3_giveFiltered 26 = .ok (.getfield 42, 3) := by decide +kernel
theorem dX3_giveFiltered_29 : decode cX3_giveFiltered 29 = .ok (.ifCond .eq 4, 3) := by decide +kernel
theorem dX3_giveFiltered_32 : decode cX3_giveFiltered 32 = .ok (.return_, 1) := by decide +kernel
theorem dX3_giveFiltered_33 : decode cX3_giveFiltered 33 = .ok (.iload 4, 2) := by decide +kernel
theorem dX3_giveFiltered_35 : decode cX3_giveFiltered 35 = .ok (.ifCond .eq 9, 3) := by decide +kernel
theorem dX3_giveFiltered_38 : decode cX3_giveFiltered 38 = .ok (.aload_n 0, 1) := by decide +kernel
theorem dX3_giveFiltered_39 : decode cX3_giveFiltered 39 = .ok (.iload_n 3, 1) := by decide +kernel
theorem dX3_giveFiltered_40 : decode cX3_giveFiltered 40 = .ok (.invokevirtual 133, 3) := by decide +kernel
theorem dX3_giveFiltered_43 : decode cX3_giveFiltered 43 = .ok (.pop, 1) := by decide +kernel
theorem dX3_giveFiltered_44 : decode cX3_giveFiltered 44 = .ok (.iinc 3 6, 3) := by decide +kernel
theorem dX3_giveFiltered_47 : decode cX3_giveFiltered 47 = .ok (.goto (-40), 3) := by decide +kernel
theorem dX3_giveFiltered_50 : decode cX3_giveFiltered 50 = .ok (.return_, 1) := by decide +kernel
theorem dX3_giveSet_0 : decode cX3_giveSet 0 = .ok (.aload_n 0, 1) := by decide +kernel
theorem dX3_giveSet_1 : decode cX3_giveSet 1 = .ok (.getfield 17, 3) := by decide +kernel
theorem dX3_giveSet_4 : decode cX3_giveSet 4 = .ok (.iload_n 1, 1) := by decide +kernel
theorem dX3_giveSet_5 : decode cX3_giveSet 5 = .ok (.iaload, 1) := by decide +kernel
theorem dX3_giveSet_6 : decode cX3_giveSet 6 = .ok (.istore 4, 2) := by decide +kernel
theorem dX3_giveSet_8 : decode cX3_giveSet 8 = .ok (.iload 4, 2) := by decide +kernel
theorem dX3_giveSet_10 : decode cX3_giveSet 10 = .ok (.aload_n 0, 1) := by decide +kernel
theorem dX3_giveSet_11 : decode cX3_giveSet 11 = .ok (.getfield 20, 3) := by decide +kernel
theorem dX3_giveSet_14 : decode cX3_giveSet 14 = .ok (.iload_n 1, 1) := by decide +kernel
theorem dX3_giveSet_15 : decode cX3_giveSet 15 = .ok (.iaload, 1) := by decide +kernel
theorem dX3_giveSet_16 : decode cX3_giveSet 16 = .ok (.if_icmp .ge 45, 3) := by decide +kernel
theorem dX3_giveSet_19 : decode cX3_giveSet 19 = .ok (.aload_n 0, 1) := by decide +kernel
theorem dX3_giveSet_20 : decode cX3_giveSet 20 = .ok (.iload_n 3, 1) := by decide +kernel
theorem dX3_giveSet_21 : decode cX3_giveSet 21 = .ok (.iload 4, 2) := by decide +kernel
theorem dX3_giveSet_23 : decode cX3_giveSet 23 = .ok (.invokevirtual 130, 3) := by decide +kernel
theorem dX3_giveSet_26 : decode cX3_giveSet 26 = .ok (.istore 5, 2) := by decide +kernel
theorem dX3_giveSet_28 : decode cX3_giveSet 28 = .ok (.aload_n 0, 1) := by decide +kernel
theorem dX3_giveSet_29 : decode cX3_giveSet 29 = .ok (.getfield 42, 3) := by decide +kernel
theorem dX3_giveSet_32 : decode cX3_giveSet 32 = .ok (.ifCond .eq 4, 3) := by decide +kernel
theorem dX3_giveSet_35 : decode cX3_giveSet 35 = .ok (.return_, 1) := by decide +kernel
theorem dX3_giveSet_36 : decode cX3_giveSet 36 = .ok (.aload_n 0, 1) := by decide +kernel
theorem dX3_giveSet_37 : decode cX3_giveSet 37 = .ok (.iload 4, 2) := by decide +kernel
theorem dX3_giveSet_39 : decode cX3_giveSet 39 = .ok (.invokevirtual 133, 3) := by decide +kernel
theorem dX3_giveSet_42 : decode cX3_giveSet 42 = .ok (.istore 6, 2) := by decide +kernel
theorem dX3_giveSet_44 : decode cX3_giveSet 44 = .ok (.aload_n 0, 1) := by decide +kernel
theorem dX3_giveSet_45 : decode cX3_giveSet 45 = .ok (.getfield 13, 3) := by decide +kernel
theorem dX3_giveSet_48 : decode cX3_giveSet 48 = .ok (.iload 6, 2) := by decide +kernel
theorem dX3_giveSet_50 : decode cX3_giveSet 50 = .ok (.iload_n 2, 1) := by decide +kernel
theorem dX3_giveSet_51 : decode cX3_giveSet 51 = .ok (.iadd, 1) := by decide +kernel
theorem dX3_giveSet_52 : decode cX3_giveSet 52 = .ok (.iload 5, 2) := by decide +kernel
theorem dX3_giveSet_54 : decode cX3_giveSet 54 = .ok (.iastore, 1) := by decide +kernel
theorem dX3_giveSet_55 : decode cX3_giveSet 55 = .ok (.iinc 4 6, 3) := by decide +kernel
theorem dX3_giveSet_58 : decode cX3_giveSet 58 = .ok (.goto (-50), 3) := by decide +kernel
theorem dX3_giveSet_61 : decode cX3_giveSet 61 = .ok (.return_, 1) := by decide +kernel
theorem dX3_giveKept_0 : decode cX3_giveKept 0 = .ok (.aload_n 0, 1) := by decide +kernel
theorem dX3_giveKept_1 : decode cX3_giveKept 1 = .ok (.getfield 17, 3) := by decide +kernel
theorem dX3_giveKept_4 : decode cX3_giveKept 4 = .ok (.iload_n 1, 1) := by decide +kernel
theorem dX3_giveKept_5 : decode cX3_giveKept 5 = .ok (.iaload, 1) := by decide +kernel
theorem dX3_giveKept_6 : decode cX3_giveKept 6 = .ok (.istore_n 3, 1) := by decide +kernel
theorem dX3_giveKept_7 : decode cX3_giveKept 7 = .ok (.iload_n 3, 1) := by decide +kernel
theorem dX3_giveKept_8 : decode cX3_giveKept 8 = .ok (.aload_n 0, 1) := by decide +kernel
theorem dX3_giveKept_9 : decode cX3_giveKept 9 = .ok (.getfield 20, 3) := by decide +kernel
theorem dX3_giveKept_12 : decode cX3_giveKept 12 = .ok (.iload_n 1, 1) := by decide +kernel
theorem dX3_giveKept_13 : decode cX3_giveKept 13 = .ok (.iaload, 1) := by decide +kernel
theorem dX3_giveKept_14 : decode cX3_giveKept 14 = .ok (.if_icmp .ge 23, 3) := by decide +kernel
theorem dX3_giveKept_17 : decode cX3_giveKept 17 = .ok (.aload_n 0, 1) := by decide +kernel
theorem dX3_giveKept_18 : decode cX3_giveKept 18 = .ok (.invokevirtual 115, 3) := by decide +kernel
theorem dX3_giveKept_21 : decode cX3_giveKept 21 = .ok (.istore 4, 2) := by decide +kernel
theorem dX3_giveKept_23 : decode cX3_giveKept 23 = .ok (.aload_n 0, 1) := by decide +kernel
theorem dX3_giveKept_24 : decode cX3_giveKept 24 = .ok (.iload_n 2, 1) := by decide +kernel
theorem dX3_giveKept_25 : decode cX3_giveKept 25 = .ok (.iload_n 3, 1) := by decide +kernel
theorem dX3_giveKept_26 : decode cX3_giveKept 26 = .ok (.iload 4, 2) := by decide +kernel
theorem dX3_giveKept_28 : decode cX3_giveKept 28 = .ok (.invokevirtual 136, 3) := by decide +kernel
theorem dX3_giveKept_31 : decode cX3_giveKept 31 = .ok (.iinc 3 6, 3) := by decide +kernel
theorem dX3_giveKept_34 : decode cX3_giveKept 34 = .ok (.goto (-27), 3) := by decide +kernel
theorem dX3_giveKept_37 : decode cX3_giveKept 37 = .ok (.return_, 1) := by decide +kernel
theorem dX3_giveJoined_0 : decode cX3_giveJoined 0 = .ok (.aload_n 0, 1) := by decide +kernel
theorem dX3_giveJoined_1 : decode cX3_giveJoined 1 = .ok (.getfield 17, 3) := by decide +kernel
theorem dX3_giveJoined_4 : decode cX3_giveJoined 4 = .ok (.iload_n 1, 1) := by decide +kernel
theorem dX3_giveJoined_5 : decode cX3_giveJoined 5 = .ok (.iaload, 1) := by decide +kernel
theorem dX3_giveJoined_6 : decode cX3_giveJoined 6 = .ok (.istore 5, 2) := by decide +kernel
theorem dX3_giveJoined_8 : decode cX3_giveJoined 8 = .ok (.iload 5, 2) := by decide +kernel
theorem dX3_giveJoined_10 : decode cX3_giveJoined 10 = .ok (.aload_n 0, 1) := by decide +kernel
theorem dX3_giveJoined_11 : decode cX3_giveJoined 11 = .ok (.getfield 20, 3) := by decide +kernel
theorem dX3_giveJoined_14 : decode cX3_giveJoined 14 = .ok (.iload_n 1, 1) := by decide +kernel
theorem dX3_giveJoined_15 : decode cX3_giveJoined 15 = .ok (.iaload, 1) := by decide +kernel
theorem dX3_giveJoined_16 : decode cX3_giveJoined 16 = .ok (.if_icmp .ge 73, 3) := by decide +kernel
theorem dX3_giveJoined_19 : decode cX3_giveJoined 19 = .ok (.aload_n 0, 1) := by decide +kernel
theorem dX3_giveJoined_20 : decode cX3_giveJoined 20 = .ok (.getfield 17, 3) := by decide +kernel
theorem dX3_giveJoined_23 : decode cX3_giveJoined 23 = .ok (.iload_n 2, 1) := by decide +kernel
theorem dX3_giveJoined_24 : decode cX3_giveJoined 24 = .ok (.iaload, 1) := by decide +kernel
theorem dX3_giveJoined_25 : decode cX3_giveJoined 25 = .ok (.istore 6, 2) := by decide +kernel
theorem dX3_giveJoined_27 : decode cX3_giveJoined 27 = .ok (.iload 6, 2) := by decide +kernel
theorem dX3_giveJoined_29 : decode cX3_giveJoined 29 = .ok (.aload_n 0, 1) := by decide +kernel
theorem dX3_giveJoined_30 : decode cX3_giveJoined 30 = .ok (.getfield 20, 3) := by decide +kernel
theorem dX3_giveJoined_33 : decode cX3_giveJoined 33 = .ok (.iload_n 2, 1) := by decide +kernel
theorem dX3_giveJoined_34 : decode cX3_giveJoined 34 = .ok (.iaload, 1) := by decide +kernel
theorem dX3_giveJoined_35 : decode cX3_giveJoined 35 = .ok (.if_icmp .ge 48, 3) := by decide +kernel
theorem dX3_giveJoined_38 : decode cX3_giveJoined 38 = .ok (.aload_n 0, 1) := by decide +kernel
theorem dX3_giveJoined_39 : decode cX3_giveJoined 39 = .ok (.getfield 13, 3) := by decide +kernel
theorem dX3_giveJoined_42 : decode cX3_giveJoined 42 = .ok (.iload 5, 2) := by decide +kernel
theorem dX3_giveJoined_44 : decode cX3_giveJoined 44 = .ok (.iload_n 3, 1) := by decide +kernel
theorem dX3_giveJoined_45 : decode cX3_giveJoined 45 = .ok (.iadd, 1) := by decide +kernel
theorem dX3_giveJoined_46 : decode cX3_giveJoined 46 = .ok (.iaload, 1) := by decide +kernel
theorem dX3_giveJoined_47 : decode cX3_giveJoined 47 = .ok (.aload_n 0, 1) := by decide +kernel
theorem dX3_giveJoined_48 : decode cX3_giveJoined 48 = .ok (.getfield 13, 3) := by decide +kernel
theorem dX3_giveJoined_51 : decode cX3_giveJoined 51 = .ok (.iload 6, 2) := by decide +kernel
theorem dX3_giveJoined_53 : decode cX3_giveJoined 53 = .ok (.iload_n 3, 1) := by decide +kernel
theorem dX3_giveJoined_54 : decode cX3_giveJoined 54 = .ok (.iadd, 1) := by decide +kernel
theorem dX3_giveJoined_55 : decode cX3_giveJoined 55 = .ok (.iaload, 1) := by decide +kernel
theorem dX3_giveJoined_56 : decode cX3_giveJoined 56 = .ok (.if_icmp .ne 21, 3) := by decide +kernel
theorem dX3_giveJoined_59 : decode cX3_giveJoined 59 = .ok (.aload_n 0, 1) := by decide +kernel
theorem dX3_giveJoined_60 : decode cX3_giveJoined 60 = .ok (.iload 5, 2) := by decide +kernel
theorem dX3_giveJoined_62 : decode cX3_giveJoined 62 = .ok (.invokevirtual 133, 3) := by decide +kernel
theorem dX3_giveJoined_65 : decode cX3_giveJoined 65 = .ok (.istore 7, 2) := by decide +kernel
theorem dX3_giveJoined_67 : decode cX3_giveJoined 67 = .ok (.aload_n 0, 1) := by decide +kernel
theorem dX3_giveJoined_68 : decode cX3_giveJoined 68 = .ok (.iload 4, 2) := by decide +kernel
theorem dX3_giveJoined_70 : decode cX3_giveJoined 70 = .ok (.iload 6, 2) := by decide +kernel
theorem dX3_giveJoined_72 : decode cX3_giveJoined 72 = .ok (.iload 7, 2) := by decide +kernel
theorem dX3_giveJoined_74 : decode cX3_giveJoined 74 = .ok (.invokevirtual 136, 3) := by decide +kernel
theorem dX3_giveJoined_77 : decode cX3_giveJoined 77 = .ok (.iinc 6 6, 3) := by decide +kernel
theorem dX3_giveJoined_80 : decode cX3_giveJoined 80 = .ok (.goto (-53), 3) := by decide +kernel
theorem dX3_giveJoined_83 : decode cX3_giveJoined 83 = .ok (.iinc 5 6, 3) := by decide +kernel
theorem dX3_giveJoined_86 : decode cX3_giveJoined 86 = .ok (.goto (-78), 3) := by decide +kernel
theorem dX3_giveJoined_89 : decode cX3_giveJoined 89 = .ok (.return_, 1) := by decide +kernel
theorem dX3_giveFolded_0 : decode cX3_giveFolded 0 = .ok (.aload_n 0, 1) := by decide +kernel
theorem dX3_giveFolded_1 : decode cX3_giveFolded 1 = .ok (.getfield 39, 3) := by decide +kernel
theorem dX3_giveFolded_4 : decode cX3_giveFolded 4 = .ok (.istore 4, 2) := by decide +kernel
theorem dX3_giveFolded_6 : decode cX3_giveFolded 6 = .ok (.aload_n 0, 1) := by decide +kernel
theorem dX3_giveFolded_7 : decode cX3_giveFolded 7 = .ok (.getfield 17, 3) := by decide +kernel
theorem dX3_giveFolded_10 : decode cX3_giveFolded 10 = .ok (.iload_n 1, 1) := by decide +kernel
theorem dX3_giveFolded_11 : decode cX3_giveFolded 11 = .ok (.iaload, 1) := by decide +kernel
theorem dX3_giveFolded_12 : decode cX3_giveFolded 12 = .ok (.istore 5, 2) := by decide +kernel
theorem dX3_giveFolded_14 : decode cX3_giveFolded 14 = .ok (.iload 5, 2) := by decide +kernel
theorem dX3_giveFolded_16 : decode cX3_giveFolded 16 = .ok (.aload_n 0, 1) := by decide +kernel
theorem dX3_giveFolded_17 : decode cX3_giveFolded 17 = .ok (.getfield 20, 3) := by decide +kernel
theorem dX3_giveFolded_20 : decode cX3_giveFolded 20 = .ok (.iload_n 1, 1) := by decide +kernel
theorem dX3_giveFolded_21 : decode cX3_giveFolded 21 = .ok (.iaload, 1) := by decide +kernel
theorem dX3_giveFolded_22 : decode cX3_giveFolded 22 = .ok (.if_icmp .ge 77, 3) := by decide +kernel
theorem dX3_giveFolded_25 : decode cX3_giveFolded 25 = .ok (.aload_n 0, 1) := by decide +kernel
theorem dX3_giveFolded_26 : decode cX3_giveFolded 26 = .ok (.iload 4, 2) := by decide +kernel
theorem dX3_giveFolded_28 : decode cX3_giveFolded 28 = .ok (.iload_n 2, 1) := by decide +kernel
theorem dX3_giveFolded_29 : decode cX3_giveFolded 29 = .ok (.aload_n 0, 1) := by decide +kernel
theorem dX3_giveFolded_30 : decode cX3_giveFolded 30 = .ok (.getfield 13, 3) := by decide +kernel
theorem dX3_giveFolded_33 : decode cX3_giveFolded 33 = .ok (.iload 5, 2) := by decide +kernel
theorem dX3_giveFolded_35 : decode cX3_giveFolded 35 = .ok (.iload_n 2, 1) := by decide +kernel
theorem dX3_giveFolded_36 : decode cX3_giveFolded 36 = .ok (.iadd, 1) := by decide +kernel
theorem dX3_giveFolded_37 : decode cX3_giveFolded 37 = .ok (.iaload, 1) := by decide +kernel
theorem dX3_giveFolded_38 : decode cX3_giveFolded 38 = .ok (.invokevirtual 139, 3) := by decide +kernel
theorem dX3_giveFolded_41 : decode cX3_giveFolded 41 = .ok (.istore 6, 2) := by decide +kernel
theorem dX3_giveFolded_43 : decode cX3_giveFolded 43 = .ok (.iload 6, 2) := by decide +kernel
theorem dX3_giveFolded_45 : decode cX3_giveFolded 45 = .ok (.ifCond .ge 27, 3) := by decide +kernel
theorem dX3_giveFolded_48 : decode cX3_giveFolded 48 = .ok (.aload_n 0, 1) := by decide +kernel
theorem dX3_giveFolded_49 : decode cX3_giveFolded 49 = .ok (.invokevirtual 115, 3) := by decide +kernel
theorem dX3_giveFolded_52 : decode cX3_giveFolded 52 = .ok (.istore 6, 2) := by decide +kernel
theorem dX3_giveFolded_54 : decode cX3_giveFolded 54 = .ok (.aload_n 0, 1) := by decide +kernel
theorem dX3_giveFolded_55 : decode cX3_giveFolded 55 = .ok (.getfield 13, 3) := by decide +kernel
theorem dX3_giveFolded_58 : decode cX3_giveFolded 58 = .ok (.iload 6, 2) := by decide +kernel
theorem dX3_giveFolded_60 : decode cX3_giveFolded 60 = .ok (.iload_n 2, 1) := by decide +kernel
theorem dX3_giveFolded_61 : decode cX3_giveFolded 61 = .ok (.iadd, 1) := by decide +kernel
theorem dX3_giveFolded_62 : decode cX3_giveFolded 62 = .ok (.aload_n 0, 1) := by decide +kernel
theorem dX3_giveFolded_63 : decode cX3_giveFolded 63 = .ok (.getfield 13, 3) := by decide +kernel
theorem dX3_giveFolded_66 : decode cX3_giveFolded 66 = .ok (.iload 5, 2) := by decide +kernel
theorem dX3_giveFolded_68 : decode cX3_giveFolded 68 = .ok (.iload_n 2, 1) := by decide +kernel
theorem dX3_giveFolded_69 : decode cX3_giveFolded 69 = .ok (.iadd, 1) := by decide +kernel
theorem dX3_giveFolded_70 : decode cX3_giveFolded 70 = .ok (.iaload, 1) := by decide +kernel
theorem dX3_giveFolded_71 : decode cX3_giveFolded 71 = .ok (.iastore, 1) := by decide +kernel
theorem dX3_giveFolded_72 : decode cX3_giveFolded 72 = .ok (.aload_n 0, 1) := by decide +kernel
theorem dX3_giveFolded_73 : decode cX3_giveFolded 73 = .ok (.getfield 13, 3) := by decide +kernel
theorem dX3_giveFolded_76 : decode cX3_giveFolded 76 = .ok (.iload 6, 2) := by decide +kernel
theorem dX3_giveFolded_78 : decode cX3_giveFolded 78 = .ok (.iload_n 3, 1) := by decide +kernel
theorem dX3_giveFolded_79 : decode cX3_giveFolded 79 = .ok (.iadd, 1) := by decide +kernel
theorem dX3_giveFolded_80 : decode cX3_giveFolded 80 = .ok (.dup2, 1) := by decide +kernel
theorem dX3_giveFolded_81 : decode cX3_giveFolded 81 = .ok (.iaload, 1) := by decide +kernel
theorem dX3_giveFolded_82 : decode cX3_giveFolded 82 = .ok (.aload_n 0, 1) := by decide +kernel
theorem dX3_giveFolded_83 : decode cX3_giveFolded 83 = .ok (.getfield 13, 3) := by decide +kernel
theorem dX3_giveFolded_86 : decode cX3_giveFolded 86 = .ok (.iload 5, 2) := by decide +kernel
theorem dX3_giveFolded_88 : decode cX3_giveFolded 88 = .ok (.iload_n 3, 1) := by decide +kernel
theorem dX3_giveFolded_89 : decode cX3_giveFolded 89 = .ok (.iadd, 1) := by decide +kernel
theorem dX3_giveFolded_90 : decode cX3_giveFolded 90 = .ok (.iaload, 1) := by decide +kernel
theorem dX3_giveFolded_91 : decode cX3_giveFolded 91 = .ok (.iadd, 1) := by decide +kernel
theorem dX3_giveFolded_92 : decode cX3_giveFolded 92 = .ok (.iastore, 1) := by decide +kernel
theorem dX3_giveFolded_93 : decode cX3_giveFolded 93 = .ok (.iinc 5 6, 3) := by decide +kernel
theorem dX3_giveFolded_96 : decode cX3_giveFolded 96 = .ok (.goto (-82), 3) := by decide +kernel
theorem dX3_giveFolded_99 : decode cX3_giveFolded 99 = .ok (.return_, 1) := by decide +kernel
theorem dX3_giveOnce_0 : decode cX3_giveOnce 0 = .ok (.aload_n 0, 1) := by decide +kernel
theorem dX3_giveOnce_1 : decode cX3_giveOnce 1 = .ok (.getfield 39, 3) := by decide +kernel
theorem dX3_giveOnce_4 : decode cX3_giveOnce 4 = .ok (.istore_n 2, 1) := by decide +kernel
theorem dX3_giveOnce_5 : decode cX3_giveOnce 5 = .ok (.aload_n 0, 1) := by decide +kernel
theorem dX3_giveOnce_6 : decode cX3_giveOnce 6 = .ok (.getfield 17, 3) := by decide +kernel
theorem dX3_giveOnce_9 : decode cX3_giveOnce 9 = .ok (.iload_n 1, 1) := by decide +kernel
theorem dX3_giveOnce_10 : decode cX3_giveOnce 10 = .ok (.iaload, 1) := by decide +kernel
theorem dX3_giveOnce_11 : decode cX3_giveOnce 11 = .ok (.istore_n 3, 1) := by decide +kernel
theorem dX3_giveOnce_12 : decode cX3_giveOnce 12 = .ok (.iload_n 3, 1) := by decide +kernel
theorem dX3_giveOnce_13 : decode cX3_giveOnce 13 = .ok (.aload_n 0, 1) := by decide +kernel
theorem dX3_giveOnce_14 : decode cX3_giveOnce 14 = .ok (.getfield 20, 3) := by decide +kernel
theorem dX3_giveOnce_17 : decode cX3_giveOnce 17 = .ok (.iload_n 1, 1) := by decide +kernel
theorem dX3_giveOnce_18 : decode cX3_giveOnce 18 = .ok (.iaload, 1) := by decide +kernel
theorem dX3_giveOnce_19 : decode cX3_giveOnce 19 = .ok (.if_icmp .ge 24, 3) := by decide +kernel
theorem dX3_giveOnce_22 : decode cX3_giveOnce 22 = .ok (.aload_n 0, 1) := by decide +kernel
theorem dX3_giveOnce_23 : decode cX3_giveOnce 23 = .ok (.iload_n 2, 1) := by decide +kernel
theorem dX3_giveOnce_24 : decode cX3_giveOnce 24 = .ok (.iload_n 3, 1) := by decide +kernel
theorem dX3_giveOnce_25 : decode cX3_giveOnce 25 = .ok (.invokevirtual 143, 3) := by decide +kernel
theorem dX3_giveOnce_28 : decode cX3_giveOnce 28 = .ok (.ifCond .ne 9, 3) := by decide +kernel
theorem dX3_giveOnce_31 : decode cX3_giveOnce 31 = .ok (.aload_n 0, 1) := by decide +kernel
theorem dX3_giveOnce_32 : decode cX3_giveOnce 32 = .ok (.iload_n 3, 1) := by decide +kernel
theorem dX3_giveOnce_33 : decode cX3_giveOnce 33 = .ok (.invokevirtual 133, 3) := by decide +kernel
theorem dX3_giveOnce_36 : decode cX3_giveOnce 36 = .ok (.pop, 1) := by decide +kernel
theorem dX3_giveOnce_37 : decode cX3_giveOnce 37 = .ok (.iinc 3 6, 3) := by decide +kernel
theorem dX3_giveOnce_40 : decode cX3_giveOnce 40 = .ok (.goto (-28), 3) := by decide +kernel
theorem dX3_giveOnce_43 : decode cX3_giveOnce 43 = .ok (.return_, 1) := by decide +kernel
theorem dX3_giveFirst_0 : decode cX3_giveFirst 0 = .ok (.aload_n 0, 1) := by decide +kernel
theorem dX3_giveFirst_1 : decode cX3_giveFirst 1 = .ok (.getfield 20, 3) := by decide +kernel
theorem dX3_giveFirst_4 : decode cX3_giveFirst 4 = .ok (.iload_n 1, 1) := by decide +kernel
theorem dX3_giveFirst_5 : decode cX3_giveFirst 5 = .ok (.iaload, 1) := by decide +kernel
theorem dX3_giveFirst_6 : decode cX3_giveFirst 6 = .ok (.aload_n 0, 1) := by decide +kernel
theorem dX3_giveFirst_7 : decode cX3_giveFirst 7 = .ok (.getfield 17, 3) := by decide +kernel
theorem dX3_giveFirst_10 : decode cX3_giveFirst 10 = .ok (.iload_n 1, 1) := by decide +kernel
theorem dX3_giveFirst_11 : decode cX3_giveFirst 11 = .ok (.iaload, 1) := by decide +kernel
theorem dX3_giveFirst_12 : decode cX3_giveFirst 12 = .ok (.iload_n 2, 1) := by decide +kernel
theorem dX3_giveFirst_13 : decode cX3_giveFirst 13 = .ok (.bipush 6, 2) := by decide +kernel
theorem dX3_giveFirst_15 : decode cX3_giveFirst 15 = .ok (.imul, 1) := by decide +kernel
theorem dX3_giveFirst_16 : decode cX3_giveFirst 16 = .ok (.iadd, 1) := by decide +kernel
theorem dX3_giveFirst_17 : decode cX3_giveFirst 17 = .ok (.invokestatic 147, 3) := by decide +kernel
theorem dX3_giveFirst_20 : decode cX3_giveFirst 20 = .ok (.istore_n 3, 1) := by decide +kernel
theorem dX3_giveFirst_21 : decode cX3_giveFirst 21 = .ok (.aload_n 0, 1) := by decide +kernel
theorem dX3_giveFirst_22 : decode cX3_giveFirst 22 = .ok (.getfield 17, 3) := by decide +kernel
theorem dX3_giveFirst_25 : decode cX3_giveFirst 25 = .ok (.iload_n 1, 1) := by decide +kernel
theorem dX3_giveFirst_26 : decode cX3_giveFirst 26 = .ok (.iaload, 1) := by decide +kernel
theorem dX3_giveFirst_27 : decode cX3_giveFirst 27 = .ok (.istore 4, 2) := by decide +kernel
theorem dX3_giveFirst_29 : decode cX3_giveFirst 29 = .ok (.iload 4, 2) := by decide +kernel
theorem dX3_giveFirst_31 : decode cX3_giveFirst 31 = .ok (.iload_n 3, 1) := by decide +kernel
theorem dX3_giveFirst_32 : decode cX3_giveFirst 32 = .ok (.if_icmp .ge 16, 3) := by decide +kernel
theorem dX3_giveFirst_35 : decode cX3_giveFirst 35 = .ok (.aload_n 0, 1) := by decide +kernel
theorem dX3_giveFirst_36 : decode cX3_giveFirst 36 = .ok (.iload 4, 2) := by decide +kernel
theorem dX3_giveFirst_38 : decode cX3_giveFirst 38 = .ok (.invokevirtual 133, 3) := by decide +kernel
theorem dX3_giveFirst_41 : decode cX3_giveFirst 41 = .ok (.pop, 1) := by decide +kernel
theorem dX3_giveFirst_42 : decode cX3_giveFirst 42 = .ok (.iinc 4 6, 3) := by decide +kernel
theorem dX3_giveFirst_45 : decode cX3_giveFirst 45 = .ok (.goto (-16), 3) := by decide +kernel
theorem dX3_giveFirst_48 : decode cX3_giveFirst 48 = .ok (.return_, 1) := by decide +kernel
theorem dX3_findMember_0 : decode cX3_findMember 0 = .ok (.iload_n 1, 1) := by decide +kernel
theorem dX3_findMember_1 : decode cX3_findMember 1 = .ok (.istore 4, 2) := by decide +kernel
theorem dX3_findMember_3 : decode cX3_findMember 3 = .ok (.iload 4, 2) := by decide +kernel
theorem dX3_findMember_5 : decode cX3_findMember 5 = .ok (.aload_n 0, 1) := by decide +kernel
theorem dX3_findMember_6 : decode cX3_findMember 6 = .ok (.getfield 39, 3) := by decide +kernel
theorem dX3_findMember_9 : decode cX3_findMember 9 = .ok (.if_icmp .ge 25, 3) := by decide +kernel
theorem dX3_findMember_12 : decode cX3_findMember 12 = .ok (.aload_n 0, 1) := by decide +kernel
theorem dX3_findMember_13 : decode cX3_findMember 13 = .ok (.getfield 13, 3) := by decide +kernel
theorem dX3_findMember_16 : decode cX3_findMember 16 = .ok (.iload 4, 2) := by decide +kernel
theorem dX3_findMember_18 : decode cX3_findMember 18 = .ok (.iload_n 2, 1) := by decide +kernel
theorem dX3_findMember_19 : decode cX3_findMember 19 = .ok (.iadd, 1) := by decide +kernel
theorem dX3_findMember_20 : decode cX3_findMember 20 = .ok (.iaload, 1) := by decide +kernel
theorem dX3_findMember_21 : decode cX3_findMember 21 = .ok (.iload_n 3, 1) := by decide +kernel
theorem dX3_findMember_22 : decode cX3_findMember 22 = .ok (.if_icmp .ne 6, 3) := by decide +kernel
theorem dX3_findMember_25 : decode cX3_findMember 25 = .ok (.iload 4, 2) := by decide +kernel
theorem dX3_findMember_27 : decode cX3_findMember 27 = .ok (.ireturn, 1) := by decide +kernel
theorem dX3_findMember_28 : decode cX3_findMember 28 = .ok (.iinc 4 6, 3) := by decide +kernel
theorem dX3_findMember_31 : decode cX3_findMember 31 = .ok (.goto (-28), 3) := by decide +kernel
theorem dX3_findMember_34 : decode cX3_findMember 34 = .ok (.iconst (-1), 1) := by decide +kernel
theorem dX3_findMember_35 : decode cX3_findMember 35 = .ok (.ireturn, 1) := by decide +kernel
theorem dX3_hasLike_0 : decode cX3_hasLike 0 = .ok (.iload_n 1, 1) := by decide +kernel
theorem dX3_hasLike_1 : decode cX3_hasLike 1 = .ok (.istore_n 3, 1) := by decide +kernel
theorem dX3_hasLike_2 : decode cX3_hasLike 2 = .ok (.iload_n 3, 1) := by decide +kernel
theorem dX3_hasLike_3 : decode cX3_hasLike 3 = .ok (.aload_n 0, 1) := by decide +kernel
theorem dX3_hasLike_4 : decode cX3_hasLike 4 = .ok (.getfield 39, 3) := by decide +kernel
theorem dX3_hasLike_7 : decode cX3_hasLike 7 = .ok (.if_icmp .ge 20, 3) := by decide +kernel
theorem dX3_hasLike_10 : decode cX3_hasLike 10 = .ok (.aload_n 0, 1) := by decide +kernel
theorem dX3_hasLike_11 : decode cX3_hasLike 11 = .ok (.iload_n 2, 1) := by decide +kernel
theorem dX3_hasLike_12 : decode cX3_hasLike 12 = .ok (.iload_n 3, 1) := by decide +kernel
theorem dX3_hasLike_13 : decode cX3_hasLike 13 = .ok (.invokevirtual 152, 3) := by decide +kernel
theorem dX3_hasLike_16 : decode cX3_hasLike 16 = .ok (.ifCond .eq 5, 3) := by decide +kernel
theorem dX3_hasLike_19 : decode cX3_hasLike 19 = .ok (.iconst 1, 1) := by decide +kernel
theorem dX3_hasLike_20 : decode cX3_hasLike 20 = .ok (.ireturn, 1) := by decide +kernel
theorem dX3_hasLike_21 : decode cX3_hasLike 21 = .ok (.iinc 3 6, 3) := by decide +kernel
theorem dX3_hasLike_24 : decode cX3_hasLike 24 = .ok (.goto (-22), 3) := by decide +kernel
theorem dX3_hasLike_27 : decode cX3_hasLike 27 = .ok (.iconst 0, 1) := by decide +kernel
theorem dX3_hasLike_28 : decode cX3_hasLike 28 = .ok (.ireturn, 1) := by decide +kernel
theorem dX3_isLike_0 : decode cX3_isLike 0 = .ok (.iconst 0, 1) := by decide +kernel
theorem dX3_isLike_1 : decode cX3_isLike 1 = .ok (.istore_n 3, 1) := by decide +kernel
theorem dX3_isLike_2 : decode cX3_isLike 2 = .ok (.iload_n 3, 1) := by decide +kernel
theorem dX3_isLike_3 : decode cX3_isLike 3 = .ok (.bipush 6, 2) := by decide +kernel
theorem dX3_isLike_5 : decode cX3_isLike 5 = .ok (.if_icmp .ge 30, 3) := by decide +kernel
theorem dX3_isLike_8 : decode cX3_isLike 8 = .ok (.aload_n 0, 1) := by decide +kernel
theorem dX3_isLike_9 : decode cX3_isLike 9 = .ok (.getfield 13, 3) := by decide +kernel
theorem dX3_isLike_12 : decode cX3_isLike 12 = .ok (.iload_n 1, 1) := by decide +kernel
theorem dX3_isLike_13 : decode cX3_isLike 13 = .ok (.iload_n 3, 1) := by decide +kernel
theorem dX3_isLike_14 : decode cX3_isLike 14 = .ok (.iadd, 1) := by decide +kernel
theorem dX3_isLike_15 : decode cX3_isLike 15 = .ok (.iaload, 1) := by decide +kernel
theorem dX3_isLike_16 : decode cX3_isLike 16 = .ok (.aload_n 0, 1) := by decide +kernel
theorem dX3_isLike_17 : decode cX3_isLike 17 = .ok (.getfield 13, 3) := by decide +kernel
theorem dX3_isLike_20 : decode cX3_isLike 20 = .ok (.iload_n 2, 1) := by decide +kernel
theorem dX3_isLike_21 : decode cX3_isLike 21 = .ok (.iload_n 3, 1) := by decide +kernel
theorem dX3_isLike_22 : decode cX3_isLike 22 = .ok (.iadd, 1) := by decide +kernel
theorem dX3_isLike_23 : decode cX3_isLike 23 = .ok (.iaload, 1) := by decide +kernel
theorem dX3_isLike_24 : decode cX3_isLike 24 = .ok (.if_icmp .eq 5, 3) := by decide +kernel
theorem dX3_isLike_27 : decode cX3_isLike 27 = .ok (.iconst 0, 1) := by decide +kernel
theorem dX3_isLike_28 : decode cX3_isLike 28 = .ok (.ireturn, 1) := by decide +kernel
theorem dX3_isLike_29 : decode cX3_isLike 29 = .ok (.iinc 3 1, 3) := by decide +kernel
theorem dX3_isLike_32 : decode cX3_isLike 32 = .ok (.goto (-30), 3) := by decide +kernel
theorem dX3_isLike_35 : decode cX3_isLike 35 = .ok (.iconst 1, 1) := by decide +kernel
theorem dX3_isLike_36 : decode cX3_isLike 36 = .ok (.ireturn, 1) := by decide +kernel
theorem dX3_copyMembers_0 : decode cX3_copyMembers 0 = .ok (.iconst 0, 1) := by decide +kernel
theorem dX3_copyMembers_1 : decode cX3_copyMembers 1 = .ok (.istore 4, 2) := by decide +kernel
theorem dX3_copyMembers_3 : decode cX3_copyMembers 3 = .ok (.iload 4, 2) := by decide +kernel
theorem dX3_copyMembers_5 : decode cX3_copyMembers 5 = .ok (.bipush 6, 2) := by decide +kernel
theorem dX3_copyMembers_7 : decode cX3_copyMembers 7 = .ok (.if_icmp .ge 36, 3) := by decide +kernel
theorem dX3_copyMembers_10 : decode cX3_copyMembers 10 = .ok (.iload 4, 2) := by decide +kernel
theorem dX3_copyMembers_12 : decode cX3_copyMembers 12 = .ok (.iload_n 1, 1) := by decide +kernel
theorem dX3_copyMembers_13 : decode cX3_copyMembers 13 = .ok (.invokestatic 155, 3) := by decide +kernel
theorem dX3_copyMembers_16 : decode cX3_copyMembers 16 = .ok (.ifCond .eq 21, 3) := by decide +kernel
theorem dX3_copyMembers_19 : decode cX3_copyMembers 19 = .ok (.aload_n 0, 1) := by decide +kernel
theorem dX3_copyMembers_20 : decode cX3_copyMembers 20 = .ok (.getfield 13, 3) := by decide +kernel
theorem dX3_copyMembers_23 : decode cX3_copyMembers 23 = .ok (.iload_n 3, 1) := by decide +kernel
theorem dX3_copyMembers_24 : decode cX3_copyMembers 24 = .ok (.iload 4, 2) := by decide +kernel
theorem dX3_copyMembers_26 : decode cX3_copyMembers 26 = .ok (.iadd, 1) := by decide +kernel
theorem dX3_copyMembers_27 : decode cX3_copyMembers 27 = .ok (.aload_n 0, 1) := by decide +kernel
theorem dX3_copyMembers_28 : decode cX3_copyMembers 28 = .ok (.getfield 13, 3) := by decide +kernel
theorem dX3_copyMembers_31 : decode cX3_copyMembers 31 = .ok (.iload_n 2, 1) := by decide +kernel
theorem dX3_copyMembers_32 : decode cX3_copyMembers 32 = .ok (.iload 4, 2) := by decide +kernel
theorem dX3_copyMembers_34 : decode cX3_copyMembers 34 = .ok (.iadd, 1) := by decide +kernel
theorem dX3_copyMembers_35 : decode cX3_copyMembers 35 = .ok (.iaload, 1) := by decide +kernel
theorem dX3_copyMembers_36 : decode cX3_copyMembers 36 = .ok (.iastore, 1) := by decide +kernel
theorem dX3_copyMembers_37 : decode cX3_copyMembers 37 = .ok (.iinc 4 1, 3) := by decide +kernel
theorem dX3_copyMembers_40 : decode cX3_copyMembers 40 = .ok (.goto (-37), 3) := by decide +kernel
theorem dX3_copyMembers_43 : decode cX3_copyMembers 43 = .ok (.return_, 1) := by decide +kernel
theorem dX3_addCopy_0 : decode cX3_addCopy 0 = .ok (.aload_n 0, 1) := by decide +kernel
theorem dX3_addCopy_1 : decode cX3_addCopy 1 = .ok (.invokevirtual 115, 3) := by decide +kernel
theorem dX3_addCopy_4 : decode cX3_addCopy 4 = .ok (.istore_n 2, 1) := by decide +kernel
theorem dX3_addCopy_5 : decode cX3_addCopy 5 = .ok (.aload_n 0, 1) := by decide +kernel
theorem dX3_addCopy_6 : decode cX3_addCopy 6 = .ok (.getfield 13, 3) := by decide +kernel
theorem dX3_addCopy_9 : decode cX3_addCopy 9 = .ok (.iload_n 1, 1) := by decide +kernel
theorem dX3_addCopy_10 : decode cX3_addCopy 10 = .ok (.aload_n 0, 1) := by decide +kernel
theorem dX3_addCopy_11 : decode cX3_addCopy 11 = .ok (.getfield 13, 3) := by decide +kernel
theorem dX3_addCopy_14 : decode cX3_addCopy 14 = .ok (.iload_n 2, 1) := by decide +kernel
theorem dX3_addCopy_15 : decode cX3_addCopy 15 = .ok (.bipush 6, 2) := by decide +kernel
theorem dX3_addCopy_17 : decode cX3_addCopy 17 = .ok (.invokestatic 124, 3) := by decide +kernel
theorem dX3_addCopy_20 : decode cX3_addCopy 20 = .ok (.iload_n 2, 1) := by decide +kernel
theorem dX3_addCopy_21 : decode cX3_addCopy 21 = .ok (.ireturn, 1) := by decide +kernel
theorem dX3_addEmpty_0 : decode cX3_addEmpty 0 = .ok (.aload_n 0, 1) := by decide +kernel
theorem dX3_addEmpty_1 : decode cX3_addEmpty 1 = .ok (.getfield 39, 3) := by decide +kernel
theorem dX3_addEmpty_4 : decode cX3_addEmpty 4 = .ok (.istore_n 1, 1) := by decide +kernel
theorem dX3_addEmpty_5 : decode cX3_addEmpty 5 = .ok (.iload_n 1, 1) := by decide +kernel
theorem dX3_addEmpty_6 : decode cX3_addEmpty 6 = .ok (.bipush 6, 2) := by decide +kernel
theorem dX3_addEmpty_8 : decode cX3_addEmpty 8 = .ok (.iadd, 1) := by decide +kernel
theorem dX3_addEmpty_9 : decode cX3_addEmpty 9 = .ok (.aload_n 0, 1) := by decide +kernel
theorem dX3_addEmpty_10 : decode cX3_addEmpty 10 = .ok (.getfield 13, 3) := by decide +kernel
theorem dX3_addEmpty_13 : decode cX3_addEmpty 13 = .ok (.arraylength, 1) := by decide +kernel
theorem dX3_addEmpty_14 : decode cX3_addEmpty 14 = .ok (.if_icmp .le 26, 3) := by decide +kernel
theorem dX3_addEmpty_17 : decode cX3_addEmpty 17 = .ok (.aload_n 0, 1) := by decide +kernel
theorem dX3_addEmpty_18 : decode cX3_addEmpty 18 = .ok (.aload_n 0, 1) := by decide +kernel
theorem dX3_addEmpty_19 : decode cX3_addEmpty 19 = .ok (.getfield 13, 3) := by decide +kernel
theorem dX3_addEmpty_22 : decode cX3_addEmpty 22 = .ok (.iconst 2, 1) := by decide +kernel
theorem dX3_addEmpty_23 : decode cX3_addEmpty 23 = .ok (.aload_n 0, 1) := by decide +kernel
theorem dX3_addEmpty_24 : decode cX3_addEmpty 24 = .ok (.getfield 13, 3) := by decide +kernel
theorem dX3_addEmpty_27 : decode cX3_addEmpty 27 = .ok (.arraylength, 1) := by decide +kernel
theorem dX3_addEmpty_28 : decode cX3_addEmpty 28 = .ok (.imul, 1) := by decide +kernel
theorem dX3_addEmpty_29 : decode cX3_addEmpty 29 = .ok (.ldc 158, 2) := by decide +kernel
theorem dX3_addEmpty_31 : decode cX3_addEmpty 31 = .ok (.invokestatic 147, 3) := by decide +kernel
theorem dX3_addEmpty_34 : decode cX3_addEmpty 34 = .ok (.invokestatic 159, 3) := by decide +kernel
theorem dX3_addEmpty_37 : decode cX3_addEmpty 37 = .ok (.putfield 13, 3) := by decide +kernel
theorem dX3_addEmpty_40 : decode cX3_addEmpty 40 = .ok (.iconst 0, 1) := by decide +kernel
theorem dX3_addEmpty_41 : decode cX3_addEmpty 41 = .ok (.istore_n 2, 1) := by decide +kernel
theorem dX3_addEmpty_42 : decode cX3_addEmpty 42 = .ok (.iload_n 2, 1) := by decide +kernel
theorem dX3_addEmpty_43 : decode cX3_addEmpty 43 = .ok (.bipush 6, 2) := by decide +kernel
theorem dX3_addEmpty_45 : decode cX3_addEmpty 45 = .ok (.if_icmp .ge 18, 3) := by decide +kernel
theorem dX3_addEmpty_48 : decode cX3_addEmpty 48 = .ok (.aload_n 0, 1) := by decide +kernel
theorem dX3_addEmpty_49 : decode cX3_addEmpty 49 = .ok (.getfield 13, 3) := by decide +kernel
theorem dX3_addEmpty_52 : decode cX3_addEmpty 52 = .ok (.iload_n 1, 1) := by decide +kernel
theorem dX3_addEmpty_53 : decode cX3_addEmpty 53 = .ok (.iload_n 2, 1) := by decide +kernel
theorem dX3_addEmpty_54 : decode cX3_addEmpty 54 = .ok (.iadd, 1) := by decide +kernel
theorem dX3_addEmpty_55 : decode cX3_addEmpty 55 = .ok (.iconst 0, 1) := by decide +kernel
theorem dX3_addEmpty_56 : decode cX3_addEmpty 56 = .ok (.iastore, 1) := by decide +kernel
theorem dX3_addEmpty_57 : decode cX3_addEmpty 57 = .ok (.iinc 2 1, 3) := by decide +kernel
theorem dX3_addEmpty_60 : decode cX3_addEmpty 60 = .ok (.goto (-18), 3) := by decide +kernel
theorem dX3_addEmpty_63 : decode cX3_addEmpty 63 = .ok (.aload_n 0, 1) := by decide +kernel
theorem dX3_addEmpty_64 : decode cX3_addEmpty 64 = .ok (.dup, 1) := by decide +kernel
theorem dX3_addEmpty_65 : decode cX3_addEmpty 65 = .ok (.getfield 39, 3) := by decide +kernel
theorem dX3_addEmpty_68 : decode cX3_addEmpty 68 = .ok (.bipush 6, 2) := by decide +kernel
theorem dX3_addEmpty_70 : decode cX3_addEmpty 70 = .ok (.iadd, 1) := by decide +kernel
theorem dX3_addEmpty_71 : decode cX3_addEmpty 71 = .ok (.putfield 39, 3) := by decide +kernel
theorem dX3_addEmpty_74 : decode cX3_addEmpty 74 = .ok (.iload_n 1, 1) := by decide +kernel
theorem dX3_addEmpty_75 : decode cX3_addEmpty 75 = .ok (.ireturn, 1) := by decide +kernel
theorem dX3_valueOf_0 : decode cX3_valueOf 0 = .ok (.aload_n 0, 1) := by decide +kernel
theorem dX3_valueOf_1 : decode cX3_valueOf 1 = .ok (.dup, 1) := by decide +kernel
theorem dX3_valueOf_2 : decode cX3_valueOf 2 = .ok (.getfield 45, 3) := by decide +kernel
theorem dX3_valueOf_5 : decode cX3_valueOf 5 = .ok (.iconst 1, 1) := by decide +kernel
theorem dX3_valueOf_6 : decode cX3_valueOf 6 = .ok (.iadd, 1) := by decide +kernel
theorem dX3_valueOf_7 : decode cX3_valueOf 7 = .ok (.putfield 45, 3) := by decide +kernel
theorem dX3_valueOf_10 : decode cX3_valueOf 10 = .ok (.aload_n 0, 1) := by decide +kernel
theorem dX3_valueOf_11 : decode cX3_valueOf 11 = .ok (.getfield 31, 3) := by decide +kernel
theorem dX3_valueOf_14 : decode cX3_valueOf 14 = .ok (.getfield 165, 3) := by decide +kernel
theorem dX3_valueOf_17 : decode cX3_valueOf 17 = .ok (.iload_n 1, 1) := by decide +kernel
theorem dX3_valueOf_18 : decode cX3_valueOf 18 = .ok (.iaload, 1) := by decide +kernel
theorem dX3_valueOf_19 : decode cX3_valueOf 19 = .ok (.istore_n 3, 1) := by decide +kernel
theorem dX3_valueOf_20 : decode cX3_valueOf 20 = .ok (.aload_n 0, 1) := by decide +kernel
theorem dX3_valueOf_21 : decode cX3_valueOf 21 = .ok (.getfield 31, 3) := by decide +kernel
theorem dX3_valueOf_24 : decode cX3_valueOf 24 = .ok (.getfield 170, 3) := by decide +kernel
theorem dX3_valueOf_27 : decode cX3_valueOf 27 = .ok (.iload_n 1, 1) := by decide +kernel
theorem dX3_valueOf_28 : decode cX3_valueOf 28 = .ok (.iaload, 1) := by decide +kernel
theorem dX3_valueOf_29 : decode cX3_valueOf 29 = .ok (.lookupswitch 38 #[(0, 27), (1, 36)], 27) := by decide +kernel
theorem dX3_valueOf_56 : decode cX3_valueOf 56 = .ok (.aload_n 0, 1) := by decide +kernel
theorem dX3_valueOf_57 : decode cX3_valueOf 57 = .ok (.getfield 13, 3) := by decide +kernel
theorem dX3_valueOf_60 : decode cX3_valueOf 60 = .ok (.iload_n 2, 1) := by decide +kernel
theorem dX3_valueOf_61 : decode cX3_valueOf 61 = .ok (.iload_n 3, 1) := by decide +kernel
theorem dX3_valueOf_62 : decode cX3_valueOf 62 = .ok (.iadd, 1) := by decide +kernel
theorem dX3_valueOf_63 : decode cX3_valueOf 63 = .ok (.iaload, 1) := by decide +kernel
theorem dX3_valueOf_64 : decode cX3_valueOf 64 = .ok (.ireturn, 1) := by decide +kernel
theorem dX3_valueOf_65 : decode cX3_valueOf 65 = .ok (.iload_n 3, 1) := by decide +kernel
theorem dX3_valueOf_66 : decode cX3_valueOf 66 = .ok (.ireturn, 1) := by decide +kernel
theorem dX3_valueOf_67 : decode cX3_valueOf 67 = .ok (.aload_n 0, 1) := by decide +kernel
theorem dX3_valueOf_68 : decode cX3_valueOf 68 = .ok (.aload_n 0, 1) := by decide +kernel
theorem dX3_valueOf_69 : decode cX3_valueOf 69 = .ok (.getfield 31, 3) := by decide +kernel
theorem dX3_valueOf_72 : decode cX3_valueOf 72 = .ok (.getfield 170, 3) := by decide +kernel
theorem dX3_valueOf_75 : decode cX3_valueOf 75 = .ok (.iload_n 1, 1) := by decide +kernel
theorem dX3_valueOf_76 : decode cX3_valueOf 76 = .ok (.iaload, 1) := by decide +kernel
theorem dX3_valueOf_77 : decode cX3_valueOf 77 = .ok (.iload_n 3, 1) := by decide +kernel
theorem dX3_valueOf_78 : decode cX3_valueOf 78 = .ok (.aload_n 0, 1) := by decide +kernel
theorem dX3_valueOf_79 : decode cX3_valueOf 79 = .ok (.getfield 31, 3) := by decide +kernel
theorem dX3_valueOf_82 : decode cX3_valueOf 82 = .ok (.getfield 171, 3) := by decide +kernel
theorem dX3_valueOf_85 : decode cX3_valueOf 85 = .ok (.iload_n 1, 1) := by decide +kernel
theorem dX3_valueOf_86 : decode cX3_valueOf 86 = .ok (.iaload, 1) := by decide +kernel
theorem dX3_valueOf_87 : decode cX3_valueOf 87 = .ok (.iload_n 2, 1) := by decide +kernel
theorem dX3_valueOf_88 : decode cX3_valueOf 88 = .ok (.invokevirtual 174, 3) := by decide +kernel
theorem dX3_valueOf_91 : decode cX3_valueOf 91 = .ok (.ireturn, 1) := by decide +kernel
theorem dX3_valueOfParts_0 : decode cX3_valueOfParts 0 = .ok (.aload_n 0, 1) := by decide +kernel
theorem dX3_valueOfParts_1 : decode cX3_valueOfParts 1 = .ok (.iload_n 2, 1) := by decide +kernel
theorem dX3_valueOfParts_2 : decode cX3_valueOfParts 2 = .ok (.iload 4, 2) := by decide +kernel
theorem dX3_valueOfParts_4 : decode cX3_valueOfParts 4 = .ok (.invokevirtual 130, 3) := by decide +kernel
theorem dX3_valueOfParts_7 : decode cX3_valueOfParts 7 = .ok (.istore 5, 2) := by decide +kernel
theorem dX3_valueOfParts_9 : decode cX3_valueOfParts 9 = .ok (.aload_n 0, 1) := by decide +kernel
theorem dX3_valueOfParts_10 : decode cX3_valueOfParts 10 = .ok (.getfield 42, 3) := by decide +kernel
theorem dX3_valueOfParts_13 : decode cX3_valueOfParts 13 = .ok (.ifCond .eq 5, 3) := by decide +kernel
theorem dX3_valueOfParts_16 : decode cX3_valueOfParts 16 = .ok (.iconst 0, 1) := by decide +kernel
theorem dX3_valueOfParts_17 : decode cX3_valueOfParts 17 = .ok (.ireturn, 1) := by decide +kernel
theorem dX3_valueOfParts_18 : decode cX3_valueOfParts 18 = .ok (.iload_n 1, 1) := by decide +kernel
theorem dX3_valueOfParts_19 : decode cX3_valueOfParts 19 = .ok (.bipush 6, 2) := by decide +kernel
theorem dX3_valueOfParts_21 : decode cX3_valueOfParts 21 = .ok (.if_icmp .ne 10, 3) := by decide +kernel
theorem dX3_valueOfParts_24 : decode cX3_valueOfParts 24 = .ok (.aload_n 0, 1) := by decide +kernel
theorem dX3_valueOfParts_25 : decode cX3_valueOfParts 25 = .ok (.iload 5, 2) := by decide +kernel
theorem dX3_valueOfParts_27 : decode cX3_valueOfParts 27 = .ok (.invokevirtual 178, 3) := by decide +kernel
theorem dX3_valueOfParts_30 : decode cX3_valueOfParts 30 = .ok (.ireturn, 1) := by decide +kernel
theorem dX3_valueOfParts_31 : decode cX3_valueOfParts 31 = .ok (.iload_n 1, 1) := by decide +kernel
theorem dX3_valueOfParts_32 : decode cX3_valueOfParts 32 = .ok (.bipush 11, 2) := by decide +kernel
theorem dX3_valueOfParts_34 : decode cX3_valueOfParts 34 = .ok (.if_icmp .ne 14, 3) := by decide +kernel
theorem dX3_valueOfParts_37 : decode cX3_valueOfParts 37 = .ok (.iload 5, 2) := by decide +kernel
theorem dX3_valueOfParts_39 : decode cX3_valueOfParts 39 = .ok (.ifCond .ne 7, 3) := by decide +kernel
theorem dX3_valueOfParts_42 : decode cX3_valueOfParts 42 = .ok (.iconst 1, 1) := by decide +kernel
theorem dX3_valueOfParts_43 : decode cX3_valueOfParts 43 = .ok (.goto 4, 3) := by decide +kernel
theorem dX3_valueOfParts_46 : decode cX3_valueOfParts 46 = .ok (.iconst 0, 1) := by decide +kernel
theorem dX3_valueOfParts_47 : decode cX3_valueOfParts 47 = .ok (.ireturn, 1) := by decide +kernel
theorem dX3_valueOfParts_48 : decode cX3_valueOfParts 48 = .ok (.iload_n 1, 1) := by decide +kernel
theorem dX3_valueOfParts_49 : decode cX3_valueOfParts 49 = .ok (.bipush 9, 2) := by decide +kernel
theorem dX3_valueOfParts_51 : decode cX3_valueOfParts 51 = .ok (.if_icmp .ne 10, 3) := by decide +kernel
theorem dX3_valueOfParts_54 : decode cX3_valueOfParts 54 = .ok (.iload 5, 2) := by decide +kernel
theorem dX3_valueOfParts_56 : decode cX3_valueOfParts 56 = .ok (.ifCond .ne 5, 3) := by decide +kernel
theorem dX3_valueOfParts_59 : decode cX3_valueOfParts 59 = .ok (.iconst 0, 1) := by decide +kernel
theorem dX3_valueOfParts_60 : decode cX3_valueOfParts 60 = .ok (.ireturn, 1) := by decide +kernel
theorem dX3_valueOfParts_61 : decode cX3_valueOfParts 61 = .ok (.iload_n 1, 1) := by decide +kernel
theorem dX3_valueOfParts_62 : decode cX3_valueOfParts 62 = .ok (.bipush 10, 2) := by decide +kernel
theorem dX3_valueOfParts_64 : decode cX3_valueOfParts 64 = .ok (.if_icmp .ne 10, 3) := by decide +kernel
theorem dX3_valueOfParts_67 : decode cX3_valueOfParts 67 = .ok (.iload 5, 2) := by decide +kernel
theorem dX3_valueOfParts_69 : decode cX3_valueOfParts 69 = .ok (.ifCond .eq 5, 3) := by decide +kernel
theorem dX3_valueOfParts_72 : decode cX3_valueOfParts 72 = .ok (.iconst 1, 1) := by decide +kernel
theorem dX3_valueOfParts_73 : decode cX3_valueOfParts 73 = .ok (.ireturn, 1) := by decide +kernel
theorem dX3_valueOfParts_74 : decode cX3_valueOfParts 74 = .ok (.aload_n 0, 1) := by decide +kernel
theorem dX3_valueOfParts_75 : decode cX3_valueOfParts 75 = .ok (.iload_n 3, 1) := by decide +kernel
theorem dX3_valueOfParts_76 : decode cX3_valueOfParts 76 = .ok (.iload 4, 2) := by decide +kernel
theorem dX3_valueOfParts_78 : decode cX3_valueOfParts 78 = .ok (.invokevirtual 130, 3) := by decide +kernel
theorem dX3_valueOfParts_81 : decode cX3_valueOfParts 81 = .ok (.istore 6, 2) := by decide +kernel
theorem dX3_valueOfParts_83 : decode cX3_valueOfParts 83 = .ok (.aload_n 0, 1) := by decide +kernel
theorem dX3_valueOfParts_84 : decode cX3_valueOfParts 84 = .ok (.getfield 42, 3) := by decide +kernel
theorem dX3_valueOfParts_87 : decode cX3_valueOfParts 87 = .ok (.ifCond .eq 5, 3) := by decide +kernel
theorem dX3_valueOfParts_90 : decode cX3_valueOfParts 90 = .ok (.iconst 0, 1) := by decide +kernel
theorem dX3_valueOfParts_91 : decode cX3_valueOfParts 91 = .ok (.ireturn, 1) := by decide +kernel
theorem dX3_valueOfParts_92 : decode cX3_valueOfParts 92 = .ok (.aload_n 0, 1) := by decide +kernel
theorem dX3_valueOfParts_93 : decode cX3_valueOfParts 93 = .ok (.iload_n 1, 1) := by decide +kernel
theorem dX3_valueOfParts_94 : decode cX3_valueOfParts 94 = .ok (.iload 5, 2) := by decide +kernel
theorem dX3_valueOfParts_96 : decode cX3_valueOfParts 96 = .ok (.iload 6, 2) := by decide +kernel
theorem dX3_valueOfParts_98 : decode cX3_valueOfParts 98 = .ok (.invokevirtual 181, 3) := by decide +kernel
theorem dX3_valueOfParts_101 : decode cX3_valueOfParts 101 = .ok (.ireturn, 1) := by decide +kernel
theorem dX3_valueOfPair_0 : decode cX3_valueOfPair 0 = .ok (.iload_n 1, 1) := by decide +kernel
theorem dX3_valueOfPair_1 : decode cX3_valueOfPair 1 = .ok (.tableswitch 92 2 8 #[43, 47, 51, 55, 92, 70, 81], 43) := by decide +kernel
theorem dX3_valueOfPair_44 : decode cX3_valueOfPair 44 = .ok (.iload_n 2, 1) := by decide +kernel
theorem dX3_valueOfPair_45 : decode cX3_valueOfPair 45 = .ok (.iload_n 3, 1) := by decide +kernel
theorem dX3_valueOfPair_46 : decode cX3_valueOfPair 46 = .ok (.iadd, 1) := by decide +kernel
theorem dX3_valueOfPair_47 : decode cX3_valueOfPair 47 = .ok (.ireturn, 1) := by decide +kernel
theorem dX3_valueOfPair_48 : decode cX3_valueOfPair 48 = .ok (.iload_n 2, 1) := by decide +kernel
theorem dX3_valueOfPair_49 : decode cX3_valueOfPair 49 = .ok (.iload_n 3, 1) := by decide +kernel
theorem dX3_valueOfPair_50 : decode cX3_valueOfPair 50 = .ok (.isub, 1) := by decide +kernel
theorem dX3_valueOfPair_51 : decode cX3_valueOfPair 51 = .ok (.ireturn, 1) := by decide +kernel
theorem dX3_valueOfPair_52 : decode cX3_valueOfPair 52 = .ok (.iload_n 2, 1) := by decide +kernel
theorem dX3_valueOfPair_53 : decode cX3_valueOfPair 53 = .ok (.iload_n 3, 1) := by decide +kernel
theorem dX3_valueOfPair_54 : decode cX3_valueOfPair 54 = .ok (.imul, 1) := by decide +kernel
theorem dX3_valueOfPair_55 : decode cX3_valueOfPair 55 = .ok (.ireturn, 1) := by decide +kernel
theorem dX3_valueOfPair_56 : decode cX3_valueOfPair 56 = .ok (.iload_n 3, 1) := by decide +kernel
theorem dX3_valueOfPair_57 : decode cX3_valueOfPair 57 = .ok (.ifCond .ne 10, 3) := by decide +kernel
theorem dX3_valueOfPair_60 : decode cX3_valueOfPair 60 = .ok (.aload_n 0, 1) := by decide +kernel
theorem dX3_valueOfPair_61 : decode cX3_valueOfPair 61 = .ok (.iconst 1, 1) := by decide +kernel
theorem dX3_valueOfPair_62 : decode cX3_valueOfPair 62 = .ok (.putfield 42, 3) := by decide +kernel
theorem dX3_valueOfPair_65 : decode cX3_valueOfPair 65 = .ok (.iconst 0, 1) := by decide +kernel
theorem dX3_valueOfPair_66 : decode cX3_valueOfPair 66 = .ok (.ireturn, 1) := by decide +kernel
theorem dX3_valueOfPair_67 : decode cX3_valueOfPair 67 = .ok (.iload_n 2, 1) := by decide +kernel
theorem dX3_valueOfPair_68 : decode cX3_valueOfPair 68 = .ok (.iload_n 3, 1) := by decide +kernel
theorem dX3_valueOfPair_69 : decode cX3_valueOfPair 69 = .ok (.idiv, 1) := by decide +kernel
theorem dX3_valueOfPair_70 : decode cX3_valueOfPair 70 = .ok (.ireturn, 1) := by decide +kernel
theorem dX3_valueOfPair_71 : decode cX3_valueOfPair 71 = .ok (.iload_n 2, 1) := by decide +kernel
theorem dX3_valueOfPair_72 : decode cX3_valueOfPair 72 = .ok (.iload_n 3, 1) := by decide +kernel
theorem dX3_valueOfPair_73 : decode cX3_valueOfPair 73 = .ok (.if_icmp .ge 7, 3) := by decide +kernel
theorem dX3_valueOfPair_76 : decode cX3_valueOfPair 76 = .ok (.iconst 1, 1) := by decide +kernel
theorem dX3_valueOfPair_77 : decode cX3_valueOfPair 77 = .ok (.goto 4, 3) := by decide +kernel
theorem dX3_valueOfPair_80 : decode cX3_valueOfPair 80 = .ok (.iconst 0, 1) := by decide +kernel
theorem dX3_valueOfPair_81 : decode cX3_valueOfPair 81 = .ok (.ireturn, 1) := by decide +kernel
theorem dX3_valueOfPair_82 : decode cX3_valueOfPair 82 = .ok (.iload_n 2, 1) := by decide +kernel
theorem dX3_valueOfPair_83 : decode cX3_valueOfPair 83 = .ok (.iload_n 3, 1) := by decide +kernel
theorem dX3_valueOfPair_84 : decode cX3_valueOfPair 84 = .ok (.if_icmp .ne 7, 3) := by decide +kernel
theorem dX3_valueOfPair_87 : decode cX3_valueOfPair 87 = .ok (.iconst 1, 1) := by decide +kernel
theorem dX3_valueOfPair_88 : decode cX3_valueOfPair 88 = .ok (.goto 4, 3) := by decide +kernel
theorem dX3_valueOfPair_91 : decode cX3_valueOfPair 91 = .ok (.iconst 0, 1) := by decide +kernel
theorem dX3_valueOfPair_92 : decode cX3_valueOfPair 92 = .ok (.ireturn, 1) := by decide +kernel
theorem dX3_valueOfPair_93 : decode cX3_valueOfPair 93 = .ok (.iload_n 3, 1) := by decide +kernel
theorem dX3_valueOfPair_94 : decode cX3_valueOfPair 94 = .ok (.ifCond .eq 7, 3) := by decide +kernel
theorem dX3_valueOfPair_97 : decode cX3_valueOfPair 97 = .ok (.iconst 1, 1) := by decide +kernel
theorem dX3_valueOfPair_98 : decode cX3_valueOfPair 98 = .ok (.goto 4, 3) := by decide +kernel
theorem dX3_valueOfPair_101 : decode cX3_valueOfPair 101 = .ok (.iconst 0, 1) := by decide +kernel
theorem dX3_valueOfPair_102 : decode cX3_valueOfPair 102 = .ok (.ireturn, 1) := by decide +kernel
theorem dX3_itemAt_0 : decode cX3_itemAt 0 = .ok (.aload_n 0, 1) := by decide +kernel
theorem dX3_itemAt_1 : decode cX3_itemAt 1 = .ok (.getfield 27, 3) := by decide +kernel
theorem dX3_itemAt_4 : decode cX3_itemAt 4 = .ok (.iload_n 1, 1) := by decide +kernel
theorem dX3_itemAt_5 : decode cX3_itemAt 5 = .ok (.invokevirtual 184, 3) := by decide +kernel
theorem dX3_itemAt_8 : decode cX3_itemAt 8 = .ok (.ifCond .ne 10, 3) := by decide +kernel
theorem dX3_itemAt_11 : decode cX3_itemAt 11 = .ok (.aload_n 0, 1) := by decide +kernel
theorem dX3_itemAt_12 : decode cX3_itemAt 12 = .ok (.iconst 2, 1) := by decide +kernel
theorem dX3_itemAt_13 : decode cX3_itemAt 13 = .ok (.putfield 42, 3) := by decide +kernel
theorem dX3_itemAt_16 : decode cX3_itemAt 16 = .ok (.iconst 0, 1) := by decide +kernel
theorem dX3_itemAt_17 : decode cX3_itemAt 17 = .ok (.ireturn, 1) := by decide +kernel
theorem dX3_itemAt_18 : decode cX3_itemAt 18 = .ok (.aload_n 0, 1) := by decide +kernel
theorem dX3_itemAt_19 : decode cX3_itemAt 19 = .ok (.getfield 27, 3) := by decide +kernel
theorem dX3_itemAt_22 : decode cX3_itemAt 22 = .ok (.getfield 188, 3) := by decide +kernel
theorem dX3_itemAt_25 : decode cX3_itemAt 25 = .ok (.iload_n 1, 1) := by decide +kernel
theorem dX3_itemAt_26 : decode cX3_itemAt 26 = .ok (.iaload, 1) := by decide +kernel
theorem dX3_itemAt_27 : decode cX3_itemAt 27 = .ok (.ireturn, 1) := by decide +kernel
