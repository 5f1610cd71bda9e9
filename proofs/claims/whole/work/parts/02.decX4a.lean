theorem dX4_init_0 : decode cX4_init 0 = .ok (.aload_n 0, 1) := by decide +kernel
theorem dX4_init_1 : decode cX4_init 1 = .ok (.invokespecial 3, 3) := by decide +kernel
theorem dX4_init_4 : decode cX4_init 4 = .ok (.aload_n 0, 1) := by decide +kernel
theorem dX4_init_5 : decode cX4_init 5 = .ok (.bipush 72, 2) := by decide +kernel
theorem dX4_init_7 : decode cX4_init 7 = .ok (.newarray .int, 2) := by decide +kernel
theorem dX4_init_9 : decode cX4_init 9 = .ok (.putfield 11, 3) := by decide +kernel
theorem dX4_init_12 : decode cX4_init 12 = .ok (.aload_n 0, 1) := by decide +kernel
theorem dX4_init_13 : decode cX4_init 13 = .ok (.iconst 4, 1) := by decide +kernel
theorem dX4_init_14 : decode cX4_init 14 = .ok (.newarray .int, 2) := by decide +kernel
theorem dX4_init_16 : decode cX4_init 16 = .ok (.putfield 15, 3) := by decide +kernel
theorem dX4_init_19 : decode cX4_init 19 = .ok (.aload_n 0, 1) := by decide +kernel
theorem dX4_init_20 : decode cX4_init 20 = .ok (.bipush 8, 2) := by decide +kernel
theorem dX4_init_22 : decode cX4_init 22 = .ok (.newarray .int, 2) := by decide +kernel
theorem dX4_init_24 : decode cX4_init 24 = .ok (.putfield 18, 3) := by decide +kernel
theorem dX4_init_27 : decode cX4_init 27 = .ok (.return_, 1) := by decide +kernel
theorem dX4_has_0 : decode cX4_has 0 = .ok (.iload_n 1, 1) := by decide +kernel
theorem dX4_has_1 : decode cX4_has 1 = .ok (.ifCond .lt 12, 3) := by decide +kernel
theorem dX4_has_4 : decode cX4_has 4 = .ok (.iload_n 1, 1) := by decide +kernel
theorem dX4_has_5 : decode cX4_has 5 = .ok (.iconst 4, 1) := by decide +kernel
theorem dX4_has_6 : decode cX4_has 6 = .ok (.if_icmp .ge 7, 3) := by decide +kernel
theorem dX4_has_9 : decode cX4_has 9 = .ok (.iconst 1, 1) := by decide +kernel
theorem dX4_has_10 : decode cX4_has 10 = .ok (.goto 4, 3) := by decide +kernel
theorem dX4_has_13 : decode cX4_has 13 = .ok (.iconst 0, 1) := by decide +kernel
theorem dX4_has_14 : decode cX4_has 14 = .ok (.ireturn, 1) := by decide +kernel
theorem dX4_hasItem_0 : decode cX4_hasItem 0 = .ok (.iload_n 1, 1) := by decide +kernel
theorem dX4_hasItem_1 : decode cX4_hasItem 1 = .ok (.ifCond .lt 13, 3) := by decide +kernel
theorem dX4_hasItem_4 : decode cX4_hasItem 4 = .ok (.iload_n 1, 1) := by decide +kernel
theorem dX4_hasItem_5 : decode cX4_hasItem 5 = .ok (.bipush 8, 2) := by decide +kernel
theorem dX4_hasItem_7 : decode cX4_hasItem 7 = .ok (.if_icmp .ge 7, 3) := by decide +kernel
theorem dX4_hasItem_10 : decode cX4_hasItem 10 = .ok (.iconst 1, 1) := by decide +kernel
theorem dX4_hasItem_11 : decode cX4_hasItem 11 = .ok (.goto 4, 3) := by decide +kernel
theorem dX4_hasItem_14 : decode cX4_hasItem 14 = .ok (.iconst 0, 1) := by decide +kernel
theorem dX4_hasItem_15 : decode cX4_hasItem 15 = .ok (.ireturn, 1) := by decide +kernel
theorem dX4_add_0 : decode cX4_add 0 = .ok (.aload_n 0, 1) := by decide +kernel
theorem dX4_add_1 : decode cX4_add 1 = .ok (.getfield 15, 3) := by decide +kernel
theorem dX4_add_4 : decode cX4_add 4 = .ok (.iload_n 1, 1) := by decide +kernel
theorem dX4_add_5 : decode cX4_add 5 = .ok (.iaload, 1) := by decide +kernel
theorem dX4_add_6 : decode cX4_add 6 = .ok (.bipush 6, 2) := by decide +kernel
theorem dX4_add_8 : decode cX4_add 8 = .ok (.if_icmp .lt 6, 3) := by decide +kernel
theorem dX4_add_11 : decode cX4_add 11 = .ok (.bipush (-2), 2) := by decide +kernel
theorem dX4_add_13 : decode cX4_add 13 = .ok (.ireturn, 1) := by decide +kernel
theorem dX4_add_14 : decode cX4_add 14 = .ok (.aload_n 0, 1) := by decide +kernel
theorem dX4_add_15 : decode cX4_add 15 = .ok (.iload_n 1, 1) := by decide +kernel
theorem dX4_add_16 : decode cX4_add 16 = .ok (.aload_n 0, 1) := by decide +kernel
theorem dX4_add_17 : decode cX4_add 17 = .ok (.getfield 15, 3) := by decide +kernel
theorem dX4_add_20 : decode cX4_add 20 = .ok (.iload_n 1, 1) := by decide +kernel
theorem dX4_add_21 : decode cX4_add 21 = .ok (.iaload, 1) := by decide +kernel
theorem dX4_add_22 : decode cX4_add 22 = .ok (.invokevirtual 21, 3) := by decide +kernel
theorem dX4_add_25 : decode cX4_add 25 = .ok (.istore 5, 2) := by decide +kernel
theorem dX4_add_27 : decode cX4_add 27 = .ok (.aload_n 0, 1) := by decide +kernel
theorem dX4_add_28 : decode cX4_add 28 = .ok (.getfield 11, 3) := by decide +kernel
theorem dX4_add_31 : decode cX4_add 31 = .ok (.iload 5, 2) := by decide +kernel
theorem dX4_add_33 : decode cX4_add 33 = .ok (.iload_n 2, 1) := by decide +kernel
theorem dX4_add_34 : decode cX4_add 34 = .ok (.iastore, 1) := by decide +kernel
theorem dX4_add_35 : decode cX4_add 35 = .ok (.aload_n 0, 1) := by decide +kernel
theorem dX4_add_36 : decode cX4_add 36 = .ok (.getfield 11, 3) := by decide +kernel
theorem dX4_add_39 : decode cX4_add 39 = .ok (.iload 5, 2) := by decide +kernel
theorem dX4_add_41 : decode cX4_add 41 = .ok (.iconst 1, 1) := by decide +kernel
theorem dX4_add_42 : decode cX4_add 42 = .ok (.iadd, 1) := by decide +kernel
theorem dX4_add_43 : decode cX4_add 43 = .ok (.iload_n 3, 1) := by decide +kernel
theorem dX4_add_44 : decode cX4_add 44 = .ok (.iastore, 1) := by decide +kernel
theorem dX4_add_45 : decode cX4_add 45 = .ok (.aload_n 0, 1) := by decide +kernel
theorem dX4_add_46 : decode cX4_add 46 = .ok (.getfield 11, 3) := by decide +kernel
theorem dX4_add_49 : decode cX4_add 49 = .ok (.iload 5, 2) := by decide +kernel
theorem dX4_add_51 : decode cX4_add 51 = .ok (.iconst 2, 1) := by decide +kernel
theorem dX4_add_52 : decode cX4_add 52 = .ok (.iadd, 1) := by decide +kernel
theorem dX4_add_53 : decode cX4_add 53 = .ok (.iload 4, 2) := by decide +kernel
theorem dX4_add_55 : decode cX4_add 55 = .ok (.iastore, 1) := by decide +kernel
theorem dX4_add_56 : decode cX4_add 56 = .ok (.aload_n 0, 1) := by decide +kernel
theorem dX4_add_57 : decode cX4_add 57 = .ok (.getfield 15, 3) := by decide +kernel
theorem dX4_add_60 : decode cX4_add 60 = .ok (.iload_n 1, 1) := by decide +kernel
theorem dX4_add_61 : decode cX4_add 61 = .ok (.dup2, 1) := by decide +kernel
theorem dX4_add_62 : decode cX4_add 62 = .ok (.iaload, 1) := by decide +kernel
theorem dX4_add_63 : decode cX4_add 63 = .ok (.iconst 1, 1) := by decide +kernel
theorem dX4_add_64 : decode cX4_add 64 = .ok (.iadd, 1) := by decide +kernel
theorem dX4_add_65 : decode cX4_add 65 = .ok (.iastore, 1) := by decide +kernel
theorem dX4_add_66 : decode cX4_add 66 = .ok (.aload_n 0, 1) := by decide +kernel
theorem dX4_add_67 : decode cX4_add 67 = .ok (.getfield 15, 3) := by decide +kernel
theorem dX4_add_70 : decode cX4_add 70 = .ok (.iload_n 1, 1) := by decide +kernel
theorem dX4_add_71 : decode cX4_add 71 = .ok (.iaload, 1) := by decide +kernel
theorem dX4_add_72 : decode cX4_add 72 = .ok (.ireturn, 1) := by decide +kernel
theorem dX4_empty_0 : decode cX4_empty 0 = .ok (.aload_n 0, 1) := by decide +kernel
theorem dX4_empty_1 : decode cX4_empty 1 = .ok (.getfield 15, 3) := by decide +kernel
theorem dX4_empty_4 : decode cX4_empty 4 = .ok (.iload_n 1, 1) := by decide +kernel
theorem dX4_empty_5 : decode cX4_empty 5 = .ok (.iaload, 1) := by decide +kernel
theorem dX4_empty_6 : decode cX4_empty 6 = .ok (.istore_n 2, 1) := by decide +kernel
theorem dX4_empty_7 : decode cX4_empty 7 = .ok (.aload_n 0, 1) := by decide +kernel
theorem dX4_empty_8 : decode cX4_empty 8 = .ok (.getfield 15, 3) := by decide +kernel
theorem dX4_empty_11 : decode cX4_empty 11 = .ok (.iload_n 1, 1) := by decide +kernel
theorem dX4_empty_12 : decode cX4_empty 12 = .ok (.iconst 0, 1) := by decide +kernel
theorem dX4_empty_13 : decode cX4_empty 13 = .ok (.iastore, 1) := by decide +kernel
theorem dX4_empty_14 : decode cX4_empty 14 = .ok (.iload_n 2, 1) := by decide +kernel
theorem dX4_empty_15 : decode cX4_empty 15 = .ok (.ireturn, 1) := by decide +kernel
theorem dX4_total_0 : decode cX4_total 0 = .ok (.iconst 0, 1) := by decide +kernel
theorem dX4_total_1 : decode cX4_total 1 = .ok (.istore_n 1, 1) := by decide +kernel
theorem dX4_total_2 : decode cX4_total 2 = .ok (.aload_n 0, 1) := by decide +kernel
theorem dX4_total_3 : decode cX4_total 3 = .ok (.getfield 15, 3) := by decide +kernel
theorem dX4_total_6 : decode cX4_total 6 = .ok (.astore_n 2, 1) := by decide +kernel
theorem dX4_total_7 : decode cX4_total 7 = .ok (.aload_n 2, 1) := by decide +kernel
theorem dX4_total_8 : decode cX4_total 8 = .ok (.arraylength, 1) := by decide +kernel
theorem dX4_total_9 : decode cX4_total 9 = .ok (.istore_n 3, 1) := by decide +kernel
theorem dX4_total_10 : decode cX4_total 10 = .ok (.iconst 0, 1) := by decide +kernel
theorem dX4_total_11 : decode cX4_total 11 = .ok (.istore 4, 2) := by decide +kernel
theorem dX4_total_13 : decode cX4_total 13 = .ok (.iload 4, 2) := by decide +kernel
theorem dX4_total_15 : decode cX4_total 15 = .ok (.iload_n 3, 1) := by decide +kernel
theorem dX4_total_16 : decode cX4_total 16 = .ok (.if_icmp .ge 20, 3) := by decide +kernel
theorem dX4_total_19 : decode cX4_total 19 = .ok (.aload_n 2, 1) := by decide +kernel
theorem dX4_total_20 : decode cX4_total 20 = .ok (.iload 4, 2) := by decide +kernel
theorem dX4_total_22 : decode cX4_total 22 = .ok (.iaload, 1) := by decide +kernel
theorem dX4_total_23 : decode cX4_total 23 = .ok (.istore 5, 2) := by decide +kernel
theorem dX4_total_25 : decode cX4_total 25 = .ok (.iload_n 1, 1) := by decide +kernel
theorem dX4_total_26 : decode cX4_total 26 = .ok (.iload 5, 2) := by decide +kernel
theorem dX4_total_28 : decode cX4_total 28 = .ok (.iadd, 1) := by decide +kernel
theorem dX4_total_29 : decode cX4_total 29 = .ok (.istore_n 1, 1) := by decide +kernel
theorem dX4_total_30 : decode cX4_total 30 = .ok (.iinc 4 1, 3) := by decide +kernel
theorem dX4_total_33 : decode cX4_total 33 = .ok (.goto (-20), 3) := by decide +kernel
theorem dX4_total_36 : decode cX4_total 36 = .ok (.iload_n 1, 1) := by decide +kernel
theorem dX4_total_37 : decode cX4_total 37 = .ok (.ireturn, 1) := by decide +kernel
theorem dX4_cellOf_0 : decode cX4_cellOf 0 = .ok (.iload_n 1, 1) := by decide +kernel
theorem dX4_cellOf_1 : decode cX4_cellOf 1 = .ok (.bipush 6, 2) := by decide +kernel
theorem dX4_cellOf_3 : decode cX4_cellOf 3 = .ok (.imul, 1) := by decide +kernel
theorem dX4_cellOf_4 : decode cX4_cellOf 4 = .ok (.iload_n 2, 1) := by decide +kernel
theorem dX4_cellOf_5 : decode cX4_cellOf 5 = .ok (.iadd, 1) := by decide +kernel
theorem dX4_cellOf_6 : decode cX4_cellOf 6 = .ok (.iconst 3, 1) := by decide +kernel
theorem dX4_cellOf_7 : decode cX4_cellOf 7 = .ok (.imul, 1) := by decide +kernel
theorem dX4_cellOf_8 : decode cX4_cellOf 8 = .ok (.ireturn, 1) := by decide +kernel
