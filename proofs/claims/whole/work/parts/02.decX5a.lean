theorem dX5_init_0 : decode cX5_init 0 = .ok (.aload_n 0, 1) := by decide +kernel
theorem dX5_init_1 : decode cX5_init 1 = .ok (.invokespecial 3, 3) := by decide +kernel
theorem dX5_init_4 : decode cX5_init 4 = .ok (.aload_n 0, 1) := by decide +kernel
theorem dX5_init_5 : decode cX5_init 5 = .ok (.new 9, 3) := by decide +kernel
theorem dX5_init_8 : decode cX5_init 8 = .ok (.dup, 1) := by decide +kernel
theorem dX5_init_9 : decode cX5_init 9 = .ok (.invokespecial 11, 3) := by decide +kernel
theorem dX5_init_12 : decode cX5_init 12 = .ok (.putfield 12, 3) := by decide +kernel
theorem dX5_init_15 : decode cX5_init 15 = .ok (.aload_n 0, 1) := by decide +kernel
theorem dX5_init_16 : decode cX5_init 16 = .ok (.new 16, 3) := by decide +kernel
theorem dX5_init_19 : decode cX5_init 19 = .ok (.dup, 1) := by decide +kernel
theorem dX5_init_20 : decode cX5_init 20 = .ok (.invokespecial 18, 3) := by decide +kernel
theorem dX5_init_23 : decode cX5_init 23 = .ok (.putfield 19, 3) := by decide +kernel
theorem dX5_init_26 : decode cX5_init 26 = .ok (.aload_n 0, 1) := by decide +kernel
theorem dX5_init_27 : decode cX5_init 27 = .ok (.new 23, 3) := by decide +kernel
theorem dX5_init_30 : decode cX5_init 30 = .ok (.dup, 1) := by decide +kernel
theorem dX5_init_31 : decode cX5_init 31 = .ok (.aload_n 0, 1) := by decide +kernel
theorem dX5_init_32 : decode cX5_init 32 = .ok (.getfield 19, 3) := by decide +kernel
theorem dX5_init_35 : decode cX5_init 35 = .ok (.invokespecial 25, 3) := by decide +kernel
theorem dX5_init_38 : decode cX5_init 38 = .ok (.putfield 28, 3) := by decide +kernel
theorem dX5_init_41 : decode cX5_init 41 = .ok (.aload_n 0, 1) := by decide +kernel
theorem dX5_init_42 : decode cX5_init 42 = .ok (.new 32, 3) := by decide +kernel
theorem dX5_init_45 : decode cX5_init 45 = .ok (.dup, 1) := by decide +kernel
theorem dX5_init_46 : decode cX5_init 46 = .ok (.aload_n 0, 1) := by decide +kernel
theorem dX5_init_47 : decode cX5_init 47 = .ok (.getfield 12, 3) := by decide +kernel
theorem dX5_init_50 : decode cX5_init 50 = .ok (.aload_n 0, 1) := by decide +kernel
theorem dX5_init_51 : decode cX5_init 51 = .ok (.getfield 19, 3) := by decide +kernel
theorem dX5_init_54 : decode cX5_init 54 = .ok (.aload_n 0, 1) := by decide +kernel
theorem dX5_init_55 : decode cX5_init 55 = .ok (.getfield 28, 3) := by decide +kernel
theorem dX5_init_58 : decode cX5_init 58 = .ok (.invokespecial 34, 3) := by decide +kernel
theorem dX5_init_61 : decode cX5_init 61 = .ok (.putfield 37, 3) := by decide +kernel
theorem dX5_init_64 : decode cX5_init 64 = .ok (.aload_n 0, 1) := by decide +kernel
theorem dX5_init_65 : decode cX5_init 65 = .ok (.new 41, 3) := by decide +kernel
theorem dX5_init_68 : decode cX5_init 68 = .ok (.dup, 1) := by decide +kernel
theorem dX5_init_69 : decode cX5_init 69 = .ok (.aload_n 0, 1) := by decide +kernel
theorem dX5_init_70 : decode cX5_init 70 = .ok (.getfield 19, 3) := by decide +kernel
theorem dX5_init_73 : decode cX5_init 73 = .ok (.aload_n 0, 1) := by decide +kernel
theorem dX5_init_74 : decode cX5_init 74 = .ok (.getfield 28, 3) := by decide +kernel
theorem dX5_init_77 : decode cX5_init 77 = .ok (.invokespecial 43, 3) := by decide +kernel
theorem dX5_init_80 : decode cX5_init 80 = .ok (.putfield 46, 3) := by decide +kernel
theorem dX5_init_83 : decode cX5_init 83 = .ok (.return_, 1) := by decide +kernel
theorem dX5_row_0 : decode cX5_row 0 = .ok (.aload_n 0, 1) := by decide +kernel
theorem dX5_row_1 : decode cX5_row 1 = .ok (.getfield 12, 3) := by decide +kernel
theorem dX5_row_4 : decode cX5_row 4 = .ok (.iload_n 1, 1) := by decide +kernel
theorem dX5_row_5 : decode cX5_row 5 = .ok (.invokevirtual 50, 3) := by decide +kernel
theorem dX5_row_8 : decode cX5_row 8 = .ok (.ifCond .ne 5, 3) := by decide +kernel
theorem dX5_row_11 : decode cX5_row 11 = .ok (.iconst (-1), 1) := by decide +kernel
theorem dX5_row_12 : decode cX5_row 12 = .ok (.ireturn, 1) := by decide +kernel
theorem dX5_row_13 : decode cX5_row 13 = .ok (.aload_n 0, 1) := by decide +kernel
theorem dX5_row_14 : decode cX5_row 14 = .ok (.getfield 12, 3) := by decide +kernel
theorem dX5_row_17 : decode cX5_row 17 = .ok (.iload_n 1, 1) := by decide +kernel
theorem dX5_row_18 : decode cX5_row 18 = .ok (.iload_n 2, 1) := by decide +kernel
theorem dX5_row_19 : decode cX5_row 19 = .ok (.iload_n 3, 1) := by decide +kernel
theorem dX5_row_20 : decode cX5_row 20 = .ok (.iload 4, 2) := by decide +kernel
theorem dX5_row_22 : decode cX5_row 22 = .ok (.invokevirtual 54, 3) := by decide +kernel
theorem dX5_row_25 : decode cX5_row 25 = .ok (.ireturn, 1) := by decide +kernel
theorem dX5_clear_0 : decode cX5_clear 0 = .ok (.aload_n 0, 1) := by decide +kernel
theorem dX5_clear_1 : decode cX5_clear 1 = .ok (.getfield 12, 3) := by decide +kernel
theorem dX5_clear_4 : decode cX5_clear 4 = .ok (.iload_n 1, 1) := by decide +kernel
theorem dX5_clear_5 : decode cX5_clear 5 = .ok (.invokevirtual 50, 3) := by decide +kernel
theorem dX5_clear_8 : decode cX5_clear 8 = .ok (.ifCond .ne 5, 3) := by decide +kernel
theorem dX5_clear_11 : decode cX5_clear 11 = .ok (.iconst (-1), 1) := by decide +kernel
theorem dX5_clear_12 : decode cX5_clear 12 = .ok (.ireturn, 1) := by decide +kernel
theorem dX5_clear_13 : decode cX5_clear 13 = .ok (.aload_n 0, 1) := by decide +kernel
theorem dX5_clear_14 : decode cX5_clear 14 = .ok (.getfield 12, 3) := by decide +kernel
theorem dX5_clear_17 : decode cX5_clear 17 = .ok (.iload_n 1, 1) := by decide +kernel
theorem dX5_clear_18 : decode cX5_clear 18 = .ok (.invokevirtual 58, 3) := by decide +kernel
theorem dX5_clear_21 : decode cX5_clear 21 = .ok (.ireturn, 1) := by decide +kernel
theorem dX5_table_0 : decode cX5_table 0 = .ok (.aload_n 0, 1) := by decide +kernel
theorem dX5_table_1 : decode cX5_table 1 = .ok (.getfield 12, 3) := by decide +kernel
theorem dX5_table_4 : decode cX5_table 4 = .ok (.iload_n 1, 1) := by decide +kernel
theorem dX5_table_5 : decode cX5_table 5 = .ok (.invokevirtual 62, 3) := by decide +kernel
theorem dX5_table_8 : decode cX5_table 8 = .ok (.ifCond .ne 5, 3) := by decide +kernel
theorem dX5_table_11 : decode cX5_table 11 = .ok (.iconst (-1), 1) := by decide +kernel
theorem dX5_table_12 : decode cX5_table 12 = .ok (.ireturn, 1) := by decide +kernel
theorem dX5_table_13 : decode cX5_table 13 = .ok (.aload_n 0, 1) := by decide +kernel
theorem dX5_table_14 : decode cX5_table 14 = .ok (.getfield 12, 3) := by decide +kernel
theorem dX5_table_17 : decode cX5_table 17 = .ok (.getfield 65, 3) := by decide +kernel
theorem dX5_table_20 : decode cX5_table 20 = .ok (.iload_n 1, 1) := by decide +kernel
theorem dX5_table_21 : decode cX5_table 21 = .ok (.iload_n 2, 1) := by decide +kernel
theorem dX5_table_22 : decode cX5_table 22 = .ok (.iastore, 1) := by decide +kernel
theorem dX5_table_23 : decode cX5_table 23 = .ok (.iconst 1, 1) := by decide +kernel
theorem dX5_table_24 : decode cX5_table 24 = .ok (.ireturn, 1) := by decide +kernel
theorem dX5_formula_0 : decode cX5_formula 0 = .ok (.aload_n 0, 1) := by decide +kernel
theorem dX5_formula_1 : decode cX5_formula 1 = .ok (.getfield 19, 3) := by decide +kernel
theorem dX5_formula_4 : decode cX5_formula 4 = .ok (.iload_n 1, 1) := by decide +kernel
theorem dX5_formula_5 : decode cX5_formula 5 = .ok (.iload_n 2, 1) := by decide +kernel
theorem dX5_formula_6 : decode cX5_formula 6 = .ok (.iload_n 3, 1) := by decide +kernel
theorem dX5_formula_7 : decode cX5_formula 7 = .ok (.invokevirtual 69, 3) := by decide +kernel
theorem dX5_formula_10 : decode cX5_formula 10 = .ok (.ifCond .ne 5, 3) := by decide +kernel
theorem dX5_formula_13 : decode cX5_formula 13 = .ok (.iconst (-1), 1) := by decide +kernel
theorem dX5_formula_14 : decode cX5_formula 14 = .ok (.ireturn, 1) := by decide +kernel
theorem dX5_formula_15 : decode cX5_formula 15 = .ok (.aload_n 0, 1) := by decide +kernel
theorem dX5_formula_16 : decode cX5_formula 16 = .ok (.getfield 19, 3) := by decide +kernel
theorem dX5_formula_19 : decode cX5_formula 19 = .ok (.iload_n 1, 1) := by decide +kernel
theorem dX5_formula_20 : decode cX5_formula 20 = .ok (.iload_n 2, 1) := by decide +kernel
theorem dX5_formula_21 : decode cX5_formula 21 = .ok (.iload_n 3, 1) := by decide +kernel
theorem dX5_formula_22 : decode cX5_formula 22 = .ok (.invokevirtual 73, 3) := by decide +kernel
theorem dX5_formula_25 : decode cX5_formula 25 = .ok (.ireturn, 1) := by decide +kernel
theorem dX5_formulaOf_0 : decode cX5_formulaOf 0 = .ok (.aload_n 0, 1) := by decide +kernel
theorem dX5_formulaOf_1 : decode cX5_formulaOf 1 = .ok (.getfield 19, 3) := by decide +kernel
theorem dX5_formulaOf_4 : decode cX5_formulaOf 4 = .ok (.iload_n 1, 1) := by decide +kernel
theorem dX5_formulaOf_5 : decode cX5_formulaOf 5 = .ok (.invokevirtual 76, 3) := by decide +kernel
theorem dX5_formulaOf_8 : decode cX5_formulaOf 8 = .ok (.ifCond .ne 5, 3) := by decide +kernel
theorem dX5_formulaOf_11 : decode cX5_formulaOf 11 = .ok (.iconst (-1), 1) := by decide +kernel
theorem dX5_formulaOf_12 : decode cX5_formulaOf 12 = .ok (.ireturn, 1) := by decide +kernel
theorem dX5_formulaOf_13 : decode cX5_formulaOf 13 = .ok (.iload_n 2, 1) := by decide +kernel
theorem dX5_formulaOf_14 : decode cX5_formulaOf 14 = .ok (.lookupswitch 49 #[(0, 26), (1, 36)], 26) := by decide +kernel
theorem dX5_formulaOf_40 : decode cX5_formulaOf 40 = .ok (.aload_n 0, 1) := by decide +kernel
theorem dX5_formulaOf_41 : decode cX5_formulaOf 41 = .ok (.getfield 19, 3) := by decide +kernel
theorem dX5_formulaOf_44 : decode cX5_formulaOf 44 = .ok (.getfield 77, 3) := by decide +kernel
theorem dX5_formulaOf_47 : decode cX5_formulaOf 47 = .ok (.iload_n 1, 1) := by decide +kernel
theorem dX5_formulaOf_48 : decode cX5_formulaOf 48 = .ok (.iaload, 1) := by decide +kernel
theorem dX5_formulaOf_49 : decode cX5_formulaOf 49 = .ok (.ireturn, 1) := by decide +kernel
theorem dX5_formulaOf_50 : decode cX5_formulaOf 50 = .ok (.aload_n 0, 1) := by decide +kernel
theorem dX5_formulaOf_51 : decode cX5_formulaOf 51 = .ok (.getfield 19, 3) := by decide +kernel
theorem dX5_formulaOf_54 : decode cX5_formulaOf 54 = .ok (.getfield 80, 3) := by decide +kernel
theorem dX5_formulaOf_57 : decode cX5_formulaOf 57 = .ok (.iload_n 1, 1) := by decide +kernel
theorem dX5_formulaOf_58 : decode cX5_formulaOf 58 = .ok (.baload, 1) := by decide +kernel
theorem dX5_formulaOf_59 : decode cX5_formulaOf 59 = .ok (.invokestatic 84, 3) := by decide +kernel
theorem dX5_formulaOf_62 : decode cX5_formulaOf 62 = .ok (.ireturn, 1) := by decide +kernel
theorem dX5_formulaOf_63 : decode cX5_formulaOf 63 = .ok (.iconst (-1), 1) := by decide +kernel
theorem dX5_formulaOf_64 : decode cX5_formulaOf 64 = .ok (.ireturn, 1) := by decide +kernel
theorem dX5_node_0 : decode cX5_node 0 = .ok (.aload_n 0, 1) := by decide +kernel
theorem dX5_node_1 : decode cX5_node 1 = .ok (.getfield 28, 3) := by decide +kernel
theorem dX5_node_4 : decode cX5_node 4 = .ok (.iload_n 1, 1) := by decide +kernel
theorem dX5_node_5 : decode cX5_node 5 = .ok (.iload_n 2, 1) := by decide +kernel
theorem dX5_node_6 : decode cX5_node 6 = .ok (.iload_n 3, 1) := by decide +kernel
theorem dX5_node_7 : decode cX5_node 7 = .ok (.iload 4, 2) := by decide +kernel
theorem dX5_node_9 : decode cX5_node 9 = .ok (.iload 5, 2) := by decide +kernel
theorem dX5_node_11 : decode cX5_node 11 = .ok (.invokevirtual 88, 3) := by decide +kernel
theorem dX5_node_14 : decode cX5_node 14 = .ok (.ifCond .ne 5, 3) := by decide +kernel
theorem dX5_node_17 : decode cX5_node 17 = .ok (.iconst (-1), 1) := by decide +kernel
theorem dX5_node_18 : decode cX5_node 18 = .ok (.ireturn, 1) := by decide +kernel
theorem dX5_node_19 : decode cX5_node 19 = .ok (.aload_n 0, 1) := by decide +kernel
theorem dX5_node_20 : decode cX5_node 20 = .ok (.getfield 28, 3) := by decide +kernel
theorem dX5_node_23 : decode cX5_node 23 = .ok (.iconst 1, 1) := by decide +kernel
theorem dX5_node_24 : decode cX5_node 24 = .ok (.invokevirtual 91, 3) := by decide +kernel
theorem dX5_node_27 : decode cX5_node 27 = .ok (.ifCond .eq 20, 3) := by decide +kernel
theorem dX5_node_30 : decode cX5_node 30 = .ok (.aload_n 0, 1) := by decide +kernel
theorem dX5_node_31 : decode cX5_node 31 = .ok (.getfield 28, 3) := by decide +kernel
theorem dX5_node_34 : decode cX5_node 34 = .ok (.iload_n 1, 1) := by decide +kernel
theorem dX5_node_35 : decode cX5_node 35 = .ok (.iload_n 2, 1) := by decide +kernel
theorem dX5_node_36 : decode cX5_node 36 = .ok (.iload_n 3, 1) := by decide +kernel
theorem dX5_node_37 : decode cX5_node 37 = .ok (.iload 5, 2) := by decide +kernel
theorem dX5_node_39 : decode cX5_node 39 = .ok (.invokevirtual 94, 3) := by decide +kernel
theorem dX5_node_42 : decode cX5_node 42 = .ok (.bipush 100, 2) := by decide +kernel
theorem dX5_node_44 : decode cX5_node 44 = .ok (.if_icmp .le 6, 3) := by decide +kernel
theorem dX5_node_47 : decode cX5_node 47 = .ok (.bipush (-2), 2) := by decide +kernel
theorem dX5_node_49 : decode cX5_node 49 = .ok (.ireturn, 1) := by decide +kernel
theorem dX5_node_50 : decode cX5_node 50 = .ok (.aload_n 0, 1) := by decide +kernel
theorem dX5_node_51 : decode cX5_node 51 = .ok (.getfield 28, 3) := by decide +kernel
theorem dX5_node_54 : decode cX5_node 54 = .ok (.iload_n 1, 1) := by decide +kernel
theorem dX5_node_55 : decode cX5_node 55 = .ok (.iload_n 2, 1) := by decide +kernel
theorem dX5_node_56 : decode cX5_node 56 = .ok (.iload_n 3, 1) := by decide +kernel
theorem dX5_node_57 : decode cX5_node 57 = .ok (.iload 4, 2) := by decide +kernel
theorem dX5_node_59 : decode cX5_node 59 = .ok (.iload 5, 2) := by decide +kernel
theorem dX5_node_61 : decode cX5_node 61 = .ok (.invokevirtual 97, 3) := by decide +kernel
theorem dX5_node_64 : decode cX5_node 64 = .ok (.ireturn, 1) := by decide +kernel
theorem dX5_told_0 : decode cX5_told 0 = .ok (.aload_n 0, 1) := by decide +kernel
theorem dX5_told_1 : decode cX5_told 1 = .ok (.getfield 28, 3) := by decide +kernel
theorem dX5_told_4 : decode cX5_told 4 = .ok (.iload_n 1, 1) := by decide +kernel
theorem dX5_told_5 : decode cX5_told 5 = .ok (.invokevirtual 100, 3) := by decide +kernel
theorem dX5_told_8 : decode cX5_told 8 = .ok (.ifCond .ne 5, 3) := by decide +kernel
theorem dX5_told_11 : decode cX5_told 11 = .ok (.iconst (-1), 1) := by decide +kernel
theorem dX5_told_12 : decode cX5_told 12 = .ok (.ireturn, 1) := by decide +kernel
theorem dX5_told_13 : decode cX5_told 13 = .ok (.iload_n 2, 1) := by decide +kernel
theorem dX5_told_14 : decode cX5_told 14 = .ok (.tableswitch 115 0 6 #[42, 52, 62, 72, 82, 92, 102], 42) := by decide +kernel
theorem dX5_told_56 : decode cX5_told 56 = .ok (.aload_n 0, 1) := by decide +kernel
theorem dX5_told_57 : decode cX5_told 57 = .ok (.getfield 28, 3) := by decide +kernel
theorem dX5_told_60 : decode cX5_told 60 = .ok (.getfield 101, 3) := by decide +kernel
theorem dX5_told_63 : decode cX5_told 63 = .ok (.iload_n 1, 1) := by decide +kernel
theorem dX5_told_64 : decode cX5_told 64 = .ok (.iaload, 1) := by decide +kernel
theorem dX5_told_65 : decode cX5_told 65 = .ok (.ireturn, 1) := by decide +kernel
theorem dX5_told_66 : decode cX5_told 66 = .ok (.aload_n 0, 1) := by decide +kernel
theorem dX5_told_67 : decode cX5_told 67 = .ok (.getfield 28, 3) := by decide +kernel
theorem dX5_told_70 : decode cX5_told 70 = .ok (.getfield 104, 3) := by decide +kernel
theorem dX5_told_73 : decode cX5_told 73 = .ok (.iload_n 1, 1) := by decide +kernel
theorem dX5_told_74 : decode cX5_told 74 = .ok (.iaload, 1) := by decide +kernel
theorem dX5_told_75 : decode cX5_told 75 = .ok (.ireturn, 1) := by decide +kernel
theorem dX5_told_76 : decode cX5_told 76 = .ok (.aload_n 0, 1) := by decide +kernel
theorem dX5_told_77 : decode cX5_told 77 = .ok (.getfield 28, 3) := by decide +kernel
theorem dX5_told_80 : decode cX5_told 80 = .ok (.getfield 107, 3) := by decide +kernel
theorem dX5_told_83 : decode cX5_told 83 = .ok (.iload_n 1, 1) := by decide +kernel
theorem dX5_told_84 : decode cX5_told 84 = .ok (.iaload, 1) := by decide +kernel
theorem dX5_told_85 : decode cX5_told 85 = .ok (.ireturn, 1) := by decide +kernel
theorem dX5_told_86 : decode cX5_told 86 = .ok (.aload_n 0, 1) := by decide +kernel
theorem dX5_told_87 : decode cX5_told 87 = .ok (.getfield 28, 3) := by decide +kernel
theorem dX5_told_90 : decode cX5_told 90 = .ok (.getfield 110, 3) := by decide +kernel
theorem dX5_told_93 : decode cX5_told 93 = .ok (.iload_n 1, 1) := by decide +kernel
theorem dX5_told_94 : decode cX5_told 94 = .ok (.iaload, 1) := by decide +kernel
theorem dX5_told_95 : decode cX5_told 95 = .ok (.ireturn, 1) := by decide +kernel
theorem dX5_told_96 : decode cX5_told 96 = .ok (.aload_n 0, 1) := by decide +kernel
theorem dX5_told_97 : decode cX5_told 97 = .ok (.getfield 28, 3) := by decide +kernel
theorem dX5_told_100 : decode cX5_told 100 = .ok (.getfield 113, 3) := by decide +kernel
theorem dX5_told_103 : decode cX5_told 103 = .ok (.iload_n 1, 1) := by decide +kernel
theorem dX5_told_104 : decode cX5_told 104 = .ok (.iaload, 1) := by decide +kernel
theorem dX5_told_105 : decode cX5_told 105 = .ok (.ireturn, 1) := by decide +kernel
theorem dX5_told_106 : decode cX5_told 106 = .ok (.aload_n 0, 1) := by decide +kernel
theorem dX5_told_107 : decode cX5_told 107 = .ok (.getfield 28, 3) := by decide +kernel
theorem dX5_told_110 : decode cX5_told 110 = .ok (.getfield 116, 3) := by decide +kernel
theorem dX5_told_113 : decode cX5_told 113 = .ok (.iload_n 1, 1) := by decide +kernel
theorem dX5_told_114 : decode cX5_told 114 = .ok (.iaload, 1) := by decide +kernel
theorem dX5_told_115 : decode cX5_told 115 = .ok (.ireturn, 1) := by decide +kernel
theorem dX5_told_116 : decode cX5_told 116 = .ok (.aload_n 0, 1) := by decide +kernel
theorem dX5_told_117 : decode cX5_told 117 = .ok (.getfield 28, 3) := by decide +kernel
theorem dX5_told_120 : decode cX5_told 120 = .ok (.getfield 119, 3) := by decide +kernel
theorem dX5_told_123 : decode cX5_told 123 = .ok (.iload_n 1, 1) := by decide +kernel
theorem dX5_told_124 : decode cX5_told 124 = .ok (.baload, 1) := by decide +kernel
theorem dX5_told_125 : decode cX5_told 125 = .ok (.invokestatic 84, 3) := by decide +kernel
theorem dX5_told_128 : decode cX5_told 128 = .ok (.ireturn, 1) := by decide +kernel
theorem dX5_told_129 : decode cX5_told 129 = .ok (.iconst (-1), 1) := by decide +kernel
theorem dX5_told_130 : decode cX5_told 130 = .ok (.ireturn, 1) := by decide +kernel
theorem dX5_run_0 : decode cX5_run 0 = .ok (.aload_n 0, 1) := by decide +kernel
theorem dX5_run_1 : decode cX5_run 1 = .ok (.getfield 28, 3) := by decide +kernel
theorem dX5_run_4 : decode cX5_run 4 = .ok (.iload_n 1, 1) := by decide +kernel
theorem dX5_run_5 : decode cX5_run 5 = .ok (.invokevirtual 100, 3) := by decide +kernel
theorem dX5_run_8 : decode cX5_run 8 = .ok (.ifCond .ne 5, 3) := by decide +kernel
theorem dX5_run_11 : decode cX5_run 11 = .ok (.iconst (-1), 1) := by decide +kernel
theorem dX5_run_12 : decode cX5_run 12 = .ok (.ireturn, 1) := by decide +kernel
theorem dX5_run_13 : decode cX5_run 13 = .ok (.aload_n 0, 1) := by decide +kernel
theorem dX5_run_14 : decode cX5_run 14 = .ok (.getfield 37, 3) := by decide +kernel
theorem dX5_run_17 : decode cX5_run 17 = .ok (.iload_n 1, 1) := by decide +kernel
theorem dX5_run_18 : decode cX5_run 18 = .ok (.invokevirtual 120, 3) := by decide +kernel
theorem dX5_run_21 : decode cX5_run 21 = .ok (.ireturn, 1) := by decide +kernel
theorem dX5_member_0 : decode cX5_member 0 = .ok (.iload_n 2, 1) := by decide +kernel
theorem dX5_member_1 : decode cX5_member 1 = .ok (.invokestatic 123, 3) := by decide +kernel
theorem dX5_member_4 : decode cX5_member 4 = .ok (.ifCond .ne 5, 3) := by decide +kernel
theorem dX5_member_7 : decode cX5_member 7 = .ok (.iconst 0, 1) := by decide +kernel
theorem dX5_member_8 : decode cX5_member 8 = .ok (.ireturn, 1) := by decide +kernel
theorem dX5_member_9 : decode cX5_member 9 = .ok (.aload_n 0, 1) := by decide +kernel
theorem dX5_member_10 : decode cX5_member 10 = .ok (.getfield 37, 3) := by decide +kernel
theorem dX5_member_13 : decode cX5_member 13 = .ok (.iload_n 1, 1) := by decide +kernel
theorem dX5_member_14 : decode cX5_member 14 = .ok (.iload_n 2, 1) := by decide +kernel
theorem dX5_member_15 : decode cX5_member 15 = .ok (.invokevirtual 126, 3) := by decide +kernel
theorem dX5_member_18 : decode cX5_member 18 = .ok (.ireturn, 1) := by decide +kernel
theorem dX5_worked_0 : decode cX5_worked 0 = .ok (.iload_n 1, 1) := by decide +kernel
theorem dX5_worked_1 : decode cX5_worked 1 = .ok (.tableswitch 63 0 3 #[31, 39, 47, 55], 31) := by decide +kernel
theorem dX5_worked_32 : decode cX5_worked 32 = .ok (.aload_n 0, 1) := by decide +kernel
theorem dX5_worked_33 : decode cX5_worked 33 = .ok (.getfield 37, 3) := by decide +kernel
theorem dX5_worked_36 : decode cX5_worked 36 = .ok (.getfield 130, 3) := by decide +kernel
theorem dX5_worked_39 : decode cX5_worked 39 = .ok (.ireturn, 1) := by decide +kernel
theorem dX5_worked_40 : decode cX5_worked 40 = .ok (.aload_n 0, 1) := by decide +kernel
theorem dX5_worked_41 : decode cX5_worked 41 = .ok (.getfield 37, 3) := by decide +kernel
theorem dX5_worked_44 : decode cX5_worked 44 = .ok (.getfield 134, 3) := by decide +kernel
theorem dX5_worked_47 : decode cX5_worked 47 = .ok (.ireturn, 1) := by decide +kernel
theorem dX5_worked_48 : decode cX5_worked 48 = .ok (.aload_n 0, 1) := by decide +kernel
theorem dX5_worked_49 : decode cX5_worked 49 = .ok (.getfield 37, 3) := by decide +kernel
theorem dX5_worked_52 : decode cX5_worked 52 = .ok (.getfield 137, 3) := by decide +kernel
theorem dX5_worked_55 : decode cX5_worked 55 = .ok (.ireturn, 1) := by decide +kernel
theorem dX5_worked_56 : decode cX5_worked 56 = .ok (.aload_n 0, 1) := by decide +kernel
theorem dX5_worked_57 : decode cX5_worked 57 = .ok (.getfield 37, 3) := by decide +kernel
theorem dX5_worked_60 : decode cX5_worked 60 = .ok (.getfield 140, 3) := by decide +kernel
theorem dX5_worked_63 : decode cX5_worked 63 = .ok (.ireturn, 1) := by decide +kernel
theorem dX5_worked_64 : decode cX5_worked 64 = .ok (.iconst (-1), 1) := by decide +kernel
theorem dX5_worked_65 : decode cX5_worked 65 = .ok (.ireturn, 1) := by decide +kernel
theorem dX5_fits_0 : decode cX5_fits 0 = .ok (.aload_n 0, 1) := by decide +kernel
theorem dX5_fits_1 : decode cX5_fits 1 = .ok (.getfield 28, 3) := by decide +kernel
theorem dX5_fits_4 : decode cX5_fits 4 = .ok (.iload_n 1, 1) := by decide +kernel
theorem dX5_fits_5 : decode cX5_fits 5 = .ok (.invokevirtual 100, 3) := by decide +kernel
theorem dX5_fits_8 : decode cX5_fits 8 = .ok (.ifCond .eq 14, 3) := by decide +kernel
theorem dX5_fits_11 : decode cX5_fits 11 = .ok (.aload_n 0, 1) := by decide +kernel
theorem dX5_fits_12 : decode cX5_fits 12 = .ok (.getfield 46, 3) := by decide +kernel
theorem dX5_fits_15 : decode cX5_fits 15 = .ok (.iload_n 2, 1) := by decide +kernel
theorem dX5_fits_16 : decode cX5_fits 16 = .ok (.invokevirtual 143, 3) := by decide +kernel
theorem dX5_fits_19 : decode cX5_fits 19 = .ok (.ifCond .ne 5, 3) := by decide +kernel
theorem dX5_fits_22 : decode cX5_fits 22 = .ok (.iconst (-1), 1) := by decide +kernel
theorem dX5_fits_23 : decode cX5_fits 23 = .ok (.ireturn, 1) := by decide +kernel
theorem dX5_fits_24 : decode cX5_fits 24 = .ok (.aload_n 0, 1) := by decide +kernel
theorem dX5_fits_25 : decode cX5_fits 25 = .ok (.getfield 46, 3) := by decide +kernel
theorem dX5_fits_28 : decode cX5_fits 28 = .ok (.iload_n 1, 1) := by decide +kernel
theorem dX5_fits_29 : decode cX5_fits 29 = .ok (.iload_n 2, 1) := by decide +kernel
theorem dX5_fits_30 : decode cX5_fits 30 = .ok (.invokevirtual 144, 3) := by decide +kernel
theorem dX5_fits_33 : decode cX5_fits 33 = .ok (.invokestatic 84, 3) := by decide +kernel
theorem dX5_fits_36 : decode cX5_fits 36 = .ok (.ireturn, 1) := by decide +kernel
theorem dX5_rewrite_0 : decode cX5_rewrite 0 = .ok (.aload_n 0, 1) := by decide +kernel
theorem dX5_rewrite_1 : decode cX5_rewrite 1 = .ok (.getfield 28, 3) := by decide +kernel
theorem dX5_rewrite_4 : decode cX5_rewrite 4 = .ok (.iload_n 1, 1) := by decide +kernel
theorem dX5_rewrite_5 : decode cX5_rewrite 5 = .ok (.invokevirtual 100, 3) := by decide +kernel
theorem dX5_rewrite_8 : decode cX5_rewrite 8 = .ok (.ifCond .eq 14, 3) := by decide +kernel
theorem dX5_rewrite_11 : decode cX5_rewrite 11 = .ok (.aload_n 0, 1) := by decide +kernel
theorem dX5_rewrite_12 : decode cX5_rewrite 12 = .ok (.getfield 46, 3) := by decide +kernel
theorem dX5_rewrite_15 : decode cX5_rewrite 15 = .ok (.iload_n 2, 1) := by decide +kernel
theorem dX5_rewrite_16 : decode cX5_rewrite 16 = .ok (.invokevirtual 143, 3) := by decide +kernel
theorem dX5_rewrite_19 : decode cX5_rewrite 19 = .ok (.ifCond .ne 5, 3) := by decide +kernel
theorem dX5_rewrite_22 : decode cX5_rewrite 22 = .ok (.iconst (-1), 1) := by decide +kernel
theorem dX5_rewrite_23 : decode cX5_rewrite 23 = .ok (.ireturn, 1) := by decide +kernel
theorem dX5_rewrite_24 : decode cX5_rewrite 24 = .ok (.aload_n 0, 1) := by decide +kernel
theorem dX5_rewrite_25 : decode cX5_rewrite 25 = .ok (.getfield 46, 3) := by decide +kernel
theorem dX5_rewrite_28 : decode cX5_rewrite 28 = .ok (.iload_n 1, 1) := by decide +kernel
theorem dX5_rewrite_29 : decode cX5_rewrite 29 = .ok (.iload_n 2, 1) := by decide +kernel
theorem dX5_rewrite_30 : decode cX5_rewrite 30 = .ok (.invokevirtual 144, 3) := by decide +kernel
theorem dX5_rewrite_33 : decode cX5_rewrite 33 = .ok (.ifCond .ne 6, 3) := by decide +kernel
theorem dX5_rewrite_36 : decode cX5_rewrite 36 = .ok (.bipush (-3), 2) := by decide +kernel
theorem dX5_rewrite_38 : decode cX5_rewrite 38 = .ok (.ireturn, 1) := by decide +kernel
theorem dX5_rewrite_39 : decode cX5_rewrite 39 = .ok (.aload_n 0, 1) := by decide +kernel
theorem dX5_rewrite_40 : decode cX5_rewrite 40 = .ok (.getfield 46, 3) := by decide +kernel
theorem dX5_rewrite_43 : decode cX5_rewrite 43 = .ok (.iload_n 1, 1) := by decide +kernel
theorem dX5_rewrite_44 : decode cX5_rewrite 44 = .ok (.iload_n 2, 1) := by decide +kernel
theorem dX5_rewrite_45 : decode cX5_rewrite 45 = .ok (.invokevirtual 148, 3) := by decide +kernel
theorem dX5_rewrite_48 : decode cX5_rewrite 48 = .ok (.ifCond .ne 6, 3) := by decide +kernel
theorem dX5_rewrite_51 : decode cX5_rewrite 51 = .ok (.bipush (-2), 2) := by decide +kernel
theorem dX5_rewrite_53 : decode cX5_rewrite 53 = .ok (.ireturn, 1) := by decide +kernel
theorem dX5_rewrite_54 : decode cX5_rewrite 54 = .ok (.aload_n 0, 1) := by decide +kernel
theorem dX5_rewrite_55 : decode cX5_rewrite 55 = .ok (.getfield 46, 3) := by decide +kernel
theorem dX5_rewrite_58 : decode cX5_rewrite 58 = .ok (.iload_n 1, 1) := by decide +kernel
theorem dX5_rewrite_59 : decode cX5_rewrite 59 = .ok (.iload_n 2, 1) := by decide +kernel
theorem dX5_rewrite_60 : decode cX5_rewrite 60 = .ok (.invokevirtual 150, 3) := by decide +kernel
theorem dX5_rewrite_63 : decode cX5_rewrite 63 = .ok (.aload_n 0, 1) := by decide +kernel
theorem dX5_rewrite_64 : decode cX5_rewrite 64 = .ok (.getfield 28, 3) := by decide +kernel
theorem dX5_rewrite_67 : decode cX5_rewrite 67 = .ok (.getfield 154, 3) := by decide +kernel
theorem dX5_rewrite_70 : decode cX5_rewrite 70 = .ok (.ireturn, 1) := by decide +kernel
theorem dX5_sweep_0 : decode cX5_sweep 0 = .ok (.aload_n 0, 1) := by decide +kernel
theorem dX5_sweep_1 : decode cX5_sweep 1 = .ok (.getfield 28, 3) := by decide +kernel
theorem dX5_sweep_4 : decode cX5_sweep 4 = .ok (.iload_n 1, 1) := by decide +kernel
theorem dX5_sweep_5 : decode cX5_sweep 5 = .ok (.invokevirtual 100, 3) := by decide +kernel
theorem dX5_sweep_8 : decode cX5_sweep 8 = .ok (.ifCond .eq 13, 3) := by decide +kernel
theorem dX5_sweep_11 : decode cX5_sweep 11 = .ok (.iload_n 2, 1) := by decide +kernel
theorem dX5_sweep_12 : decode cX5_sweep 12 = .ok (.ifCond .lt 9, 3) := by decide +kernel
theorem dX5_sweep_15 : decode cX5_sweep 15 = .ok (.iload_n 2, 1) := by decide +kernel
theorem dX5_sweep_16 : decode cX5_sweep 16 = .ok (.bipush 100, 2) := by decide +kernel
theorem dX5_sweep_18 : decode cX5_sweep 18 = .ok (.if_icmp .le 5, 3) := by decide +kernel
theorem dX5_sweep_21 : decode cX5_sweep 21 = .ok (.iconst (-1), 1) := by decide +kernel
theorem dX5_sweep_22 : decode cX5_sweep 22 = .ok (.ireturn, 1) := by decide +kernel
theorem dX5_sweep_23 : decode cX5_sweep 23 = .ok (.iconst 0, 1) := by decide +kernel
theorem dX5_sweep_24 : decode cX5_sweep 24 = .ok (.istore_n 3, 1) := by decide +kernel
theorem dX5_sweep_25 : decode cX5_sweep 25 = .ok (.iload_n 3, 1) := by decide +kernel
theorem dX5_sweep_26 : decode cX5_sweep 26 = .ok (.iload_n 2, 1) := by decide +kernel
theorem dX5_sweep_27 : decode cX5_sweep 27 = .ok (.if_icmp .ge 71, 3) := by decide +kernel
theorem dX5_sweep_30 : decode cX5_sweep 30 = .ok (.aload_n 0, 1) := by decide +kernel
theorem dX5_sweep_31 : decode cX5_sweep 31 = .ok (.getfield 46, 3) := by decide +kernel
theorem dX5_sweep_34 : decode cX5_sweep 34 = .ok (.iload_n 1, 1) := by decide +kernel
theorem dX5_sweep_35 : decode cX5_sweep 35 = .ok (.invokevirtual 157, 3) := by decide +kernel
theorem dX5_sweep_38 : decode cX5_sweep 38 = .ok (.istore 4, 2) := by decide +kernel
theorem dX5_sweep_40 : decode cX5_sweep 40 = .ok (.iload 4, 2) := by decide +kernel
theorem dX5_sweep_42 : decode cX5_sweep 42 = .ok (.ifCond .ge 7, 3) := by decide +kernel
theorem dX5_sweep_45 : decode cX5_sweep 45 = .ok (.iconst (-1), 1) := by decide +kernel
theorem dX5_sweep_46 : decode cX5_sweep 46 = .ok (.goto 12, 3) := by decide +kernel
theorem dX5_sweep_49 : decode cX5_sweep 49 = .ok (.aload_n 0, 1) := by decide +kernel
theorem dX5_sweep_50 : decode cX5_sweep 50 = .ok (.getfield 46, 3) := by decide +kernel
theorem dX5_sweep_53 : decode cX5_sweep 53 = .ok (.iload 4, 2) := by decide +kernel
theorem dX5_sweep_55 : decode cX5_sweep 55 = .ok (.invokevirtual 160, 3) := by decide +kernel
theorem dX5_sweep_58 : decode cX5_sweep 58 = .ok (.istore 5, 2) := by decide +kernel
theorem dX5_sweep_60 : decode cX5_sweep 60 = .ok (.iload 5, 2) := by decide +kernel
theorem dX5_sweep_62 : decode cX5_sweep 62 = .ok (.ifCond .lt 17, 3) := by decide +kernel
theorem dX5_sweep_65 : decode cX5_sweep 65 = .ok (.aload_n 0, 1) := by decide +kernel
theorem dX5_sweep_66 : decode cX5_sweep 66 = .ok (.getfield 46, 3) := by decide +kernel
theorem dX5_sweep_69 : decode cX5_sweep 69 = .ok (.iload 4, 2) := by decide +kernel
theorem dX5_sweep_71 : decode cX5_sweep 71 = .ok (.iload 5, 2) := by decide +kernel
theorem dX5_sweep_73 : decode cX5_sweep 73 = .ok (.invokevirtual 148, 3) := by decide +kernel
theorem dX5_sweep_76 : decode cX5_sweep 76 = .ok (.ifCond .ne 5, 3) := by decide +kernel
theorem dX5_sweep_79 : decode cX5_sweep 79 = .ok (.iload_n 3, 1) := by decide +kernel
theorem dX5_sweep_80 : decode cX5_sweep 80 = .ok (.ireturn, 1) := by decide +kernel
theorem dX5_sweep_81 : decode cX5_sweep 81 = .ok (.aload_n 0, 1) := by decide +kernel
theorem dX5_sweep_82 : decode cX5_sweep 82 = .ok (.getfield 46, 3) := by decide +kernel
theorem dX5_sweep_85 : decode cX5_sweep 85 = .ok (.iload 4, 2) := by decide +kernel
theorem dX5_sweep_87 : decode cX5_sweep 87 = .ok (.iload 5, 2) := by decide +kernel
theorem dX5_sweep_89 : decode cX5_sweep 89 = .ok (.invokevirtual 150, 3) := by decide +kernel
theorem dX5_sweep_92 : decode cX5_sweep 92 = .ok (.iinc 3 1, 3) := by decide +kernel
theorem dX5_sweep_95 : decode cX5_sweep 95 = .ok (.goto (-70), 3) := by decide +kernel
theorem dX5_sweep_98 : decode cX5_sweep 98 = .ok (.iload_n 2, 1) := by decide +kernel
theorem dX5_sweep_99 : decode cX5_sweep 99 = .ok (.ireturn, 1) := by decide +kernel
theorem dX5_count_0 : decode cX5_count 0 = .ok (.iload_n 1, 1) := by decide +kernel
theorem dX5_count_1 : decode cX5_count 1 = .ok (.tableswitch 63 0 3 #[31, 39, 47, 55], 31) := by decide +kernel
theorem dX5_count_32 : decode cX5_count 32 = .ok (.aload_n 0, 1) := by decide +kernel
theorem dX5_count_33 : decode cX5_count 33 = .ok (.getfield 19, 3) := by decide +kernel
theorem dX5_count_36 : decode cX5_count 36 = .ok (.getfield 163, 3) := by decide +kernel
theorem dX5_count_39 : decode cX5_count 39 = .ok (.ireturn, 1) := by decide +kernel
theorem dX5_count_40 : decode cX5_count 40 = .ok (.aload_n 0, 1) := by decide +kernel
theorem dX5_count_41 : decode cX5_count 41 = .ok (.getfield 28, 3) := by decide +kernel
theorem dX5_count_44 : decode cX5_count 44 = .ok (.getfield 154, 3) := by decide +kernel
theorem dX5_count_47 : decode cX5_count 47 = .ok (.ireturn, 1) := by decide +kernel
theorem dX5_count_48 : decode cX5_count 48 = .ok (.aload_n 0, 1) := by decide +kernel
theorem dX5_count_49 : decode cX5_count 49 = .ok (.getfield 46, 3) := by decide +kernel
theorem dX5_count_52 : decode cX5_count 52 = .ok (.getfield 164, 3) := by decide +kernel
theorem dX5_count_55 : decode cX5_count 55 = .ok (.ireturn, 1) := by decide +kernel
theorem dX5_count_56 : decode cX5_count 56 = .ok (.aload_n 0, 1) := by decide +kernel
theorem dX5_count_57 : decode cX5_count 57 = .ok (.getfield 12, 3) := by decide +kernel
theorem dX5_count_60 : decode cX5_count 60 = .ok (.invokevirtual 167, 3) := by decide +kernel
theorem dX5_count_63 : decode cX5_count 63 = .ok (.ireturn, 1) := by decide +kernel
theorem dX5_count_64 : decode cX5_count 64 = .ok (.iconst (-1), 1) := by decide +kernel
theorem dX5_count_65 : decode cX5_count 65 = .ok (.ireturn, 1) := by decide +kernel
theorem dX5_isMember_0 : decode cX5_isMember 0 = .ok (.iload_n 0, 1) := by decide +kernel
theorem dX5_isMember_1 : decode cX5_isMember 1 = .ok (.ifCond .lt 13, 3) := by decide +kernel
theorem dX5_isMember_4 : decode cX5_isMember 4 = .ok (.iload_n 0, 1) := by decide +kernel
theorem dX5_isMember_5 : decode cX5_isMember 5 = .ok (.bipush 6, 2) := by decide +kernel
theorem dX5_isMember_7 : decode cX5_isMember 7 = .ok (.if_icmp .ge 7, 3) := by decide +kernel
theorem dX5_isMember_10 : decode cX5_isMember 10 = .ok (.iconst 1, 1) := by decide +kernel
theorem dX5_isMember_11 : decode cX5_isMember 11 = .ok (.goto 4, 3) := by decide +kernel
theorem dX5_isMember_14 : decode cX5_isMember 14 = .ok (.iconst 0, 1) := by decide +kernel
theorem dX5_isMember_15 : decode cX5_isMember 15 = .ok (.ireturn, 1) := by decide +kernel
theorem dX5_isSet_0 : decode cX5_isSet 0 = .ok (.iload_n 0, 1) := by decide +kernel
theorem dX5_isSet_1 : decode cX5_isSet 1 = .ok (.ifCond .lt 13, 3) := by decide +kernel
theorem dX5_isSet_4 : decode cX5_isSet 4 = .ok (.iload_n 0, 1) := by decide +kernel
theorem dX5_isSet_5 : decode cX5_isSet 5 = .ok (.bipush 64, 2) := by decide +kernel
theorem dX5_isSet_7 : decode cX5_isSet 7 = .ok (.if_icmp .ge 7, 3) := by decide +kernel
theorem dX5_isSet_10 : decode cX5_isSet 10 = .ok (.iconst 1, 1) := by decide +kernel
theorem dX5_isSet_11 : decode cX5_isSet 11 = .ok (.goto 4, 3) := by decide +kernel
theorem dX5_isSet_14 : decode cX5_isSet 14 = .ok (.iconst 0, 1) := by decide +kernel
theorem dX5_isSet_15 : decode cX5_isSet 15 = .ok (.ireturn, 1) := by decide +kernel
theorem dX5_isIn_0 : decode cX5_isIn 0 = .ok (.iload_n 1, 1) := by decide +kernel
theorem dX5_isIn_1 : decode cX5_isIn 1 = .ok (.iload_n 0, 1) := by decide +kernel
theorem dX5_isIn_2 : decode cX5_isIn 2 = .ok (.ishr, 1) := by decide +kernel
theorem dX5_isIn_3 : decode cX5_isIn 3 = .ok (.iconst 1, 1) := by decide +kernel
theorem dX5_isIn_4 : decode cX5_isIn 4 = .ok (.iand, 1) := by decide +kernel
theorem dX5_isIn_5 : decode cX5_isIn 5 = .ok (.iconst 1, 1) := by decide +kernel
theorem dX5_isIn_6 : decode cX5_isIn 6 = .ok (.if_icmp .ne 7, 3) := by decide +kernel
theorem dX5_isIn_9 : decode cX5_isIn 9 = .ok (.iconst 1, 1) := by decide +kernel
theorem dX5_isIn_10 : decode cX5_isIn 10 = .ok (.goto 4, 3) := by decide +kernel
theorem dX5_isIn_13 : decode cX5_isIn 13 = .ok (.iconst 0, 1) := by decide +kernel
theorem dX5_isIn_14 : decode cX5_isIn 14 = .ok (.ireturn, 1) := by decide +kernel
theorem dX5_isWithin_0 : decode cX5_isWithin 0 = .ok (.iload_n 0, 1) := by decide +kernel
theorem dX5_isWithin_1 : decode cX5_isWithin 1 = .ok (.iload_n 1, 1) := by decide +kernel
theorem dX5_isWithin_2 : decode cX5_isWithin 2 = .ok (.iconst (-1), 1) := by decide +kernel
theorem dX5_isWithin_3 : decode cX5_isWithin 3 = .ok (.ixor, 1) := by decide +kernel
theorem dX5_isWithin_4 : decode cX5_isWithin 4 = .ok (.iand, 1) := by decide +kernel
theorem dX5_isWithin_5 : decode cX5_isWithin 5 = .ok (.ifCond .ne 7, 3) := by decide +kernel
theorem dX5_isWithin_8 : decode cX5_isWithin 8 = .ok (.iconst 1, 1) := by decide +kernel
theorem dX5_isWithin_9 : decode cX5_isWithin 9 = .ok (.goto 4, 3) := by decide +kernel
theorem dX5_isWithin_12 : decode cX5_isWithin 12 = .ok (.iconst 0, 1) := by decide +kernel
theorem dX5_isWithin_13 : decode cX5_isWithin 13 = .ok (.ireturn, 1) := by decide +kernel
theorem dX5_asNumber_0 : decode cX5_asNumber 0 = .ok (.iload_n 0, 1) := by decide +kernel
theorem dX5_asNumber_1 : decode cX5_asNumber 1 = .ok (.ifCond .eq 7, 3) := by decide +kernel
theorem dX5_asNumber_4 : decode cX5_asNumber 4 = .ok (.iconst 1, 1) := by decide +kernel
theorem dX5_asNumber_5 : decode cX5_asNumber 5 = .ok (.goto 4, 3) := by decide +kernel
theorem dX5_asNumber_8 : decode cX5_asNumber 8 = .ok (.iconst 0, 1) := by decide +kernel
theorem dX5_asNumber_9 : decode cX5_asNumber 9 = .ok (.ireturn, 1) := by decide +kernel
