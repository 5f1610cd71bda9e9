theorem dX0_init_0 : decode cX0_init 0 = .ok (.aload_n 0, 1) := by decide +kernel
theorem dX0_init_1 : decode cX0_init 1 = .ok (.invokespecial 3, 3) := by decide +kernel
theorem dX0_init_4 : decode cX0_init 4 = .ok (.aload_n 0, 1) := by decide +kernel
theorem dX0_init_5 : decode cX0_init 5 = .ok (.bipush 40, 2) := by decide +kernel
theorem dX0_init_7 : decode cX0_init 7 = .ok (.newarray .int, 2) := by decide +kernel
theorem dX0_init_9 : decode cX0_init 9 = .ok (.putfield 11, 3) := by decide +kernel
theorem dX0_init_12 : decode cX0_init 12 = .ok (.aload_n 0, 1) := by decide +kernel
theorem dX0_init_13 : decode cX0_init 13 = .ok (.bipush 40, 2) := by decide +kernel
theorem dX0_init_15 : decode cX0_init 15 = .ok (.newarray .int, 2) := by decide +kernel
theorem dX0_init_17 : decode cX0_init 17 = .ok (.putfield 15, 3) := by decide +kernel
theorem dX0_init_20 : decode cX0_init 20 = .ok (.aload_n 0, 1) := by decide +kernel
theorem dX0_init_21 : decode cX0_init 21 = .ok (.bipush 40, 2) := by decide +kernel
theorem dX0_init_23 : decode cX0_init 23 = .ok (.newarray .int, 2) := by decide +kernel
theorem dX0_init_25 : decode cX0_init 25 = .ok (.putfield 18, 3) := by decide +kernel
theorem dX0_init_28 : decode cX0_init 28 = .ok (.aload_n 0, 1) := by decide +kernel
theorem dX0_init_29 : decode cX0_init 29 = .ok (.bipush 40, 2) := by decide +kernel
theorem dX0_init_31 : decode cX0_init 31 = .ok (.newarray .int, 2) := by decide +kernel
theorem dX0_init_33 : decode cX0_init 33 = .ok (.putfield 21, 3) := by decide +kernel
theorem dX0_init_36 : decode cX0_init 36 = .ok (.aload_n 0, 1) := by decide +kernel
theorem dX0_init_37 : decode cX0_init 37 = .ok (.bipush 40, 2) := by decide +kernel
theorem dX0_init_39 : decode cX0_init 39 = .ok (.newarray .int, 2) := by decide +kernel
theorem dX0_init_41 : decode cX0_init 41 = .ok (.putfield 24, 3) := by decide +kernel
theorem dX0_init_44 : decode cX0_init 44 = .ok (.aload_n 0, 1) := by decide +kernel
theorem dX0_init_45 : decode cX0_init 45 = .ok (.bipush 40, 2) := by decide +kernel
theorem dX0_init_47 : decode cX0_init 47 = .ok (.newarray .boolean, 2) := by decide +kernel
theorem dX0_init_49 : decode cX0_init 49 = .ok (.putfield 27, 3) := by decide +kernel
theorem dX0_init_52 : decode cX0_init 52 = .ok (.return_, 1) := by decide +kernel
theorem dX0_has_0 : decode cX0_has 0 = .ok (.iload_n 1, 1) := by decide +kernel
theorem dX0_has_1 : decode cX0_has 1 = .ok (.ifCond .lt 15, 3) := by decide +kernel
theorem dX0_has_4 : decode cX0_has 4 = .ok (.iload_n 1, 1) := by decide +kernel
theorem dX0_has_5 : decode cX0_has 5 = .ok (.aload_n 0, 1) := by decide +kernel
theorem dX0_has_6 : decode cX0_has 6 = .ok (.getfield 31, 3) := by decide +kernel
theorem dX0_has_9 : decode cX0_has 9 = .ok (.if_icmp .ge 7, 3) := by decide +kernel
theorem dX0_has_12 : decode cX0_has 12 = .ok (.iconst 1, 1) := by decide +kernel
theorem dX0_has_13 : decode cX0_has 13 = .ok (.goto 4, 3) := by decide +kernel
theorem dX0_has_16 : decode cX0_has 16 = .ok (.iconst 0, 1) := by decide +kernel
theorem dX0_has_17 : decode cX0_has 17 = .ok (.ireturn, 1) := by decide +kernel
theorem dX0_isAsTold_0 : decode cX0_isAsTold 0 = .ok (.iload_n 1, 1) := by decide +kernel
theorem dX0_isAsTold_1 : decode cX0_isAsTold 1 = .ok (.ifCond .lt 20, 3) := by decide +kernel
theorem dX0_isAsTold_4 : decode cX0_isAsTold 4 = .ok (.iload_n 1, 1) := by decide +kernel
theorem dX0_isAsTold_5 : decode cX0_isAsTold 5 = .ok (.bipush 12, 2) := by decide +kernel
theorem dX0_isAsTold_7 : decode cX0_isAsTold 7 = .ok (.if_icmp .ge 14, 3) := by decide +kernel
theorem dX0_isAsTold_10 : decode cX0_isAsTold 10 = .ok (.iload_n 1, 1) := by decide +kernel
theorem dX0_isAsTold_11 : decode cX0_isAsTold 11 = .ok (.ifCond .ne 12, 3) := by decide +kernel
theorem dX0_isAsTold_14 : decode cX0_isAsTold 14 = .ok (.iload_n 2, 1) := by decide +kernel
theorem dX0_isAsTold_15 : decode cX0_isAsTold 15 = .ok (.invokestatic 35, 3) := by decide +kernel
theorem dX0_isAsTold_18 : decode cX0_isAsTold 18 = .ok (.ifCond .ne 5, 3) := by decide +kernel
theorem dX0_isAsTold_21 : decode cX0_isAsTold 21 = .ok (.iconst 0, 1) := by decide +kernel
theorem dX0_isAsTold_22 : decode cX0_isAsTold 22 = .ok (.ireturn, 1) := by decide +kernel
theorem dX0_isAsTold_23 : decode cX0_isAsTold 23 = .ok (.iload_n 1, 1) := by decide +kernel
theorem dX0_isAsTold_24 : decode cX0_isAsTold 24 = .ok (.invokestatic 39, 3) := by decide +kernel
theorem dX0_isAsTold_27 : decode cX0_isAsTold 27 = .ok (.ifCond .eq 11, 3) := by decide +kernel
theorem dX0_isAsTold_30 : decode cX0_isAsTold 30 = .ok (.aload_n 0, 1) := by decide +kernel
theorem dX0_isAsTold_31 : decode cX0_isAsTold 31 = .ok (.iload_n 2, 1) := by decide +kernel
theorem dX0_isAsTold_32 : decode cX0_isAsTold 32 = .ok (.invokevirtual 42, 3) := by decide +kernel
theorem dX0_isAsTold_35 : decode cX0_isAsTold 35 = .ok (.ifCond .eq 22, 3) := by decide +kernel
theorem dX0_isAsTold_38 : decode cX0_isAsTold 38 = .ok (.iload_n 1, 1) := by decide +kernel
theorem dX0_isAsTold_39 : decode cX0_isAsTold 39 = .ok (.invokestatic 45, 3) := by decide +kernel
theorem dX0_isAsTold_42 : decode cX0_isAsTold 42 = .ok (.ifCond .eq 11, 3) := by decide +kernel
theorem dX0_isAsTold_45 : decode cX0_isAsTold 45 = .ok (.aload_n 0, 1) := by decide +kernel
theorem dX0_isAsTold_46 : decode cX0_isAsTold 46 = .ok (.iload_n 3, 1) := by decide +kernel
theorem dX0_isAsTold_47 : decode cX0_isAsTold 47 = .ok (.invokevirtual 42, 3) := by decide +kernel
theorem dX0_isAsTold_50 : decode cX0_isAsTold 50 = .ok (.ifCond .eq 7, 3) := by decide +kernel
theorem dX0_isAsTold_53 : decode cX0_isAsTold 53 = .ok (.iconst 1, 1) := by decide +kernel
theorem dX0_isAsTold_54 : decode cX0_isAsTold 54 = .ok (.goto 4, 3) := by decide +kernel
theorem dX0_isAsTold_57 : decode cX0_isAsTold 57 = .ok (.iconst 0, 1) := by decide +kernel
theorem dX0_isAsTold_58 : decode cX0_isAsTold 58 = .ok (.ireturn, 1) := by decide +kernel
theorem dX0_hasRoom_0 : decode cX0_hasRoom 0 = .ok (.aload_n 0, 1) := by decide +kernel
theorem dX0_hasRoom_1 : decode cX0_hasRoom 1 = .ok (.getfield 31, 3) := by decide +kernel
theorem dX0_hasRoom_4 : decode cX0_hasRoom 4 = .ok (.bipush 40, 2) := by decide +kernel
theorem dX0_hasRoom_6 : decode cX0_hasRoom 6 = .ok (.if_icmp .ge 19, 3) := by decide +kernel
theorem dX0_hasRoom_9 : decode cX0_hasRoom 9 = .ok (.aload_n 0, 1) := by decide +kernel
theorem dX0_hasRoom_10 : decode cX0_hasRoom 10 = .ok (.iload_n 1, 1) := by decide +kernel
theorem dX0_hasRoom_11 : decode cX0_hasRoom 11 = .ok (.iload_n 2, 1) := by decide +kernel
theorem dX0_hasRoom_12 : decode cX0_hasRoom 12 = .ok (.iload_n 3, 1) := by decide +kernel
theorem dX0_hasRoom_13 : decode cX0_hasRoom 13 = .ok (.invokevirtual 48, 3) := by decide +kernel
theorem dX0_hasRoom_16 : decode cX0_hasRoom 16 = .ok (.bipush 30, 2) := by decide +kernel
theorem dX0_hasRoom_18 : decode cX0_hasRoom 18 = .ok (.if_icmp .gt 7, 3) := by decide +kernel
theorem dX0_hasRoom_21 : decode cX0_hasRoom 21 = .ok (.iconst 1, 1) := by decide +kernel
theorem dX0_hasRoom_22 : decode cX0_hasRoom 22 = .ok (.goto 4, 3) := by decide +kernel
theorem dX0_hasRoom_25 : decode cX0_hasRoom 25 = .ok (.iconst 0, 1) := by decide +kernel
theorem dX0_hasRoom_26 : decode cX0_hasRoom 26 = .ok (.ireturn, 1) := by decide +kernel
theorem dX0_add_0 : decode cX0_add 0 = .ok (.aload_n 0, 1) := by decide +kernel
theorem dX0_add_1 : decode cX0_add 1 = .ok (.iload_n 1, 1) := by decide +kernel
theorem dX0_add_2 : decode cX0_add 2 = .ok (.iload_n 2, 1) := by decide +kernel
theorem dX0_add_3 : decode cX0_add 3 = .ok (.iload_n 3, 1) := by decide +kernel
theorem dX0_add_4 : decode cX0_add 4 = .ok (.invokevirtual 52, 3) := by decide +kernel
theorem dX0_add_7 : decode cX0_add 7 = .ok (.ifCond .ne 6, 3) := by decide +kernel
theorem dX0_add_10 : decode cX0_add 10 = .ok (.bipush (-2), 2) := by decide +kernel
theorem dX0_add_12 : decode cX0_add 12 = .ok (.ireturn, 1) := by decide +kernel
theorem dX0_add_13 : decode cX0_add 13 = .ok (.aload_n 0, 1) := by decide +kernel
theorem dX0_add_14 : decode cX0_add 14 = .ok (.getfield 31, 3) := by decide +kernel
theorem dX0_add_17 : decode cX0_add 17 = .ok (.istore 4, 2) := by decide +kernel
theorem dX0_add_19 : decode cX0_add 19 = .ok (.aload_n 0, 1) := by decide +kernel
theorem dX0_add_20 : decode cX0_add 20 = .ok (.getfield 11, 3) := by decide +kernel
theorem dX0_add_23 : decode cX0_add 23 = .ok (.iload 4, 2) := by decide +kernel
theorem dX0_add_25 : decode cX0_add 25 = .ok (.iload_n 1, 1) := by decide +kernel
theorem dX0_add_26 : decode cX0_add 26 = .ok (.iastore, 1) := by decide +kernel
theorem dX0_add_27 : decode cX0_add 27 = .ok (.aload_n 0, 1) := by decide +kernel
theorem dX0_add_28 : decode cX0_add 28 = .ok (.getfield 15, 3) := by decide +kernel
theorem dX0_add_31 : decode cX0_add 31 = .ok (.iload 4, 2) := by decide +kernel
theorem dX0_add_33 : decode cX0_add 33 = .ok (.iload_n 2, 1) := by decide +kernel
theorem dX0_add_34 : decode cX0_add 34 = .ok (.iastore, 1) := by decide +kernel
theorem dX0_add_35 : decode cX0_add 35 = .ok (.aload_n 0, 1) := by decide +kernel
theorem dX0_add_36 : decode cX0_add 36 = .ok (.getfield 18, 3) := by decide +kernel
theorem dX0_add_39 : decode cX0_add 39 = .ok (.iload 4, 2) := by decide +kernel
theorem dX0_add_41 : decode cX0_add 41 = .ok (.iload_n 1, 1) := by decide +kernel
theorem dX0_add_42 : decode cX0_add 42 = .ok (.invokestatic 45, 3) := by decide +kernel
theorem dX0_add_45 : decode cX0_add 45 = .ok (.ifCond .eq 7, 3) := by decide +kernel
theorem dX0_add_48 : decode cX0_add 48 = .ok (.iload_n 3, 1) := by decide +kernel
theorem dX0_add_49 : decode cX0_add 49 = .ok (.goto 4, 3) := by decide +kernel
theorem dX0_add_52 : decode cX0_add 52 = .ok (.iconst 0, 1) := by decide +kernel
theorem dX0_add_53 : decode cX0_add 53 = .ok (.iastore, 1) := by decide +kernel
theorem dX0_add_54 : decode cX0_add 54 = .ok (.aload_n 0, 1) := by decide +kernel
theorem dX0_add_55 : decode cX0_add 55 = .ok (.getfield 21, 3) := by decide +kernel
theorem dX0_add_58 : decode cX0_add 58 = .ok (.iload 4, 2) := by decide +kernel
theorem dX0_add_60 : decode cX0_add 60 = .ok (.aload_n 0, 1) := by decide +kernel
theorem dX0_add_61 : decode cX0_add 61 = .ok (.iload_n 1, 1) := by decide +kernel
theorem dX0_add_62 : decode cX0_add 62 = .ok (.iload_n 2, 1) := by decide +kernel
theorem dX0_add_63 : decode cX0_add 63 = .ok (.iload_n 3, 1) := by decide +kernel
theorem dX0_add_64 : decode cX0_add 64 = .ok (.invokevirtual 48, 3) := by decide +kernel
theorem dX0_add_67 : decode cX0_add 67 = .ok (.iastore, 1) := by decide +kernel
theorem dX0_add_68 : decode cX0_add 68 = .ok (.aload_n 0, 1) := by decide +kernel
theorem dX0_add_69 : decode cX0_add 69 = .ok (.getfield 24, 3) := by decide +kernel
theorem dX0_add_72 : decode cX0_add 72 = .ok (.iload 4, 2) := by decide +kernel
theorem dX0_add_74 : decode cX0_add 74 = .ok (.aload_n 0, 1) := by decide +kernel
theorem dX0_add_75 : decode cX0_add 75 = .ok (.iload_n 1, 1) := by decide +kernel
theorem dX0_add_76 : decode cX0_add 76 = .ok (.iload_n 2, 1) := by decide +kernel
theorem dX0_add_77 : decode cX0_add 77 = .ok (.iload_n 3, 1) := by decide +kernel
theorem dX0_add_78 : decode cX0_add 78 = .ok (.invokevirtual 56, 3) := by decide +kernel
theorem dX0_add_81 : decode cX0_add 81 = .ok (.iastore, 1) := by decide +kernel
theorem dX0_add_82 : decode cX0_add 82 = .ok (.aload_n 0, 1) := by decide +kernel
theorem dX0_add_83 : decode cX0_add 83 = .ok (.getfield 27, 3) := by decide +kernel
theorem dX0_add_86 : decode cX0_add 86 = .ok (.iload 4, 2) := by decide +kernel
theorem dX0_add_88 : decode cX0_add 88 = .ok (.aload_n 0, 1) := by decide +kernel
theorem dX0_add_89 : decode cX0_add 89 = .ok (.iload_n 1, 1) := by decide +kernel
theorem dX0_add_90 : decode cX0_add 90 = .ok (.iload_n 2, 1) := by decide +kernel
theorem dX0_add_91 : decode cX0_add 91 = .ok (.iload_n 3, 1) := by decide +kernel
theorem dX0_add_92 : decode cX0_add 92 = .ok (.invokevirtual 59, 3) := by decide +kernel
theorem dX0_add_95 : decode cX0_add 95 = .ok (.bastore, 1) := by decide +kernel
theorem dX0_add_96 : decode cX0_add 96 = .ok (.aload_n 0, 1) := by decide +kernel
theorem dX0_add_97 : decode cX0_add 97 = .ok (.dup, 1) := by decide +kernel
theorem dX0_add_98 : decode cX0_add 98 = .ok (.getfield 31, 3) := by decide +kernel
theorem dX0_add_101 : decode cX0_add 101 = .ok (.iconst 1, 1) := by decide +kernel
theorem dX0_add_102 : decode cX0_add 102 = .ok (.iadd, 1) := by decide +kernel
theorem dX0_add_103 : decode cX0_add 103 = .ok (.putfield 31, 3) := by decide +kernel
theorem dX0_add_106 : decode cX0_add 106 = .ok (.iload 4, 2) := by decide +kernel
theorem dX0_add_108 : decode cX0_add 108 = .ok (.ireturn, 1) := by decide +kernel
theorem dX0_takesFirst_0 : decode cX0_takesFirst 0 = .ok (.iload_n 0, 1) := by decide +kernel
theorem dX0_takesFirst_1 : decode cX0_takesFirst 1 = .ok (.iconst 2, 1) := by decide +kernel
theorem dX0_takesFirst_2 : decode cX0_takesFirst 2 = .ok (.if_icmp .lt 7, 3) := by decide +kernel
theorem dX0_takesFirst_5 : decode cX0_takesFirst 5 = .ok (.iconst 1, 1) := by decide +kernel
theorem dX0_takesFirst_6 : decode cX0_takesFirst 6 = .ok (.goto 4, 3) := by decide +kernel
theorem dX0_takesFirst_9 : decode cX0_takesFirst 9 = .ok (.iconst 0, 1) := by decide +kernel
theorem dX0_takesFirst_10 : decode cX0_takesFirst 10 = .ok (.ireturn, 1) := by decide +kernel
theorem dX0_takesSecond_0 : decode cX0_takesSecond 0 = .ok (.iload_n 0, 1) := by decide +kernel
theorem dX0_takesSecond_1 : decode cX0_takesSecond 1 = .ok (.iconst 2, 1) := by decide +kernel
theorem dX0_takesSecond_2 : decode cX0_takesSecond 2 = .ok (.if_icmp .lt 19, 3) := by decide +kernel
theorem dX0_takesSecond_5 : decode cX0_takesSecond 5 = .ok (.iload_n 0, 1) := by decide +kernel
theorem dX0_takesSecond_6 : decode cX0_takesSecond 6 = .ok (.bipush 6, 2) := by decide +kernel
theorem dX0_takesSecond_8 : decode cX0_takesSecond 8 = .ok (.if_icmp .eq 13, 3) := by decide +kernel
theorem dX0_takesSecond_11 : decode cX0_takesSecond 11 = .ok (.iload_n 0, 1) := by decide +kernel
theorem dX0_takesSecond_12 : decode cX0_takesSecond 12 = .ok (.bipush 11, 2) := by decide +kernel
theorem dX0_takesSecond_14 : decode cX0_takesSecond 14 = .ok (.if_icmp .eq 7, 3) := by decide +kernel
theorem dX0_takesSecond_17 : decode cX0_takesSecond 17 = .ok (.iconst 1, 1) := by decide +kernel
theorem dX0_takesSecond_18 : decode cX0_takesSecond 18 = .ok (.goto 4, 3) := by decide +kernel
theorem dX0_takesSecond_21 : decode cX0_takesSecond 21 = .ok (.iconst 0, 1) := by decide +kernel
theorem dX0_takesSecond_22 : decode cX0_takesSecond 22 = .ok (.ireturn, 1) := by decide +kernel
theorem dX0_sizeOf_0 : decode cX0_sizeOf 0 = .ok (.iconst 1, 1) := by decide +kernel
theorem dX0_sizeOf_1 : decode cX0_sizeOf 1 = .ok (.iload_n 1, 1) := by decide +kernel
theorem dX0_sizeOf_2 : decode cX0_sizeOf 2 = .ok (.invokestatic 39, 3) := by decide +kernel
theorem dX0_sizeOf_5 : decode cX0_sizeOf 5 = .ok (.ifCond .eq 12, 3) := by decide +kernel
theorem dX0_sizeOf_8 : decode cX0_sizeOf 8 = .ok (.aload_n 0, 1) := by decide +kernel
theorem dX0_sizeOf_9 : decode cX0_sizeOf 9 = .ok (.getfield 21, 3) := by decide +kernel
theorem dX0_sizeOf_12 : decode cX0_sizeOf 12 = .ok (.iload_n 2, 1) := by decide +kernel
theorem dX0_sizeOf_13 : decode cX0_sizeOf 13 = .ok (.iaload, 1) := by decide +kernel
theorem dX0_sizeOf_14 : decode cX0_sizeOf 14 = .ok (.goto 4, 3) := by decide +kernel
theorem dX0_sizeOf_17 : decode cX0_sizeOf 17 = .ok (.iconst 0, 1) := by decide +kernel
theorem dX0_sizeOf_18 : decode cX0_sizeOf 18 = .ok (.iadd, 1) := by decide +kernel
theorem dX0_sizeOf_19 : decode cX0_sizeOf 19 = .ok (.iload_n 1, 1) := by decide +kernel
theorem dX0_sizeOf_20 : decode cX0_sizeOf 20 = .ok (.invokestatic 45, 3) := by decide +kernel
theorem dX0_sizeOf_23 : decode cX0_sizeOf 23 = .ok (.ifCond .eq 12, 3) := by decide +kernel
theorem dX0_sizeOf_26 : decode cX0_sizeOf 26 = .ok (.aload_n 0, 1) := by decide +kernel
theorem dX0_sizeOf_27 : decode cX0_sizeOf 27 = .ok (.getfield 21, 3) := by decide +kernel
theorem dX0_sizeOf_30 : decode cX0_sizeOf 30 = .ok (.iload_n 3, 1) := by decide +kernel
theorem dX0_sizeOf_31 : decode cX0_sizeOf 31 = .ok (.iaload, 1) := by decide +kernel
theorem dX0_sizeOf_32 : decode cX0_sizeOf 32 = .ok (.goto 4, 3) := by decide +kernel
theorem dX0_sizeOf_35 : decode cX0_sizeOf 35 = .ok (.iconst 0, 1) := by decide +kernel
theorem dX0_sizeOf_36 : decode cX0_sizeOf 36 = .ok (.iadd, 1) := by decide +kernel
theorem dX0_sizeOf_37 : decode cX0_sizeOf 37 = .ok (.ireturn, 1) := by decide +kernel
theorem dX0_readsOf_0 : decode cX0_readsOf 0 = .ok (.iload_n 1, 1) := by decide +kernel
theorem dX0_readsOf_1 : decode cX0_readsOf 1 = .ok (.ifCond .ne 7, 3) := by decide +kernel
theorem dX0_readsOf_4 : decode cX0_readsOf 4 = .ok (.iconst 1, 1) := by decide +kernel
theorem dX0_readsOf_5 : decode cX0_readsOf 5 = .ok (.iload_n 2, 1) := by decide +kernel
theorem dX0_readsOf_6 : decode cX0_readsOf 6 = .ok (.ishl, 1) := by decide +kernel
theorem dX0_readsOf_7 : decode cX0_readsOf 7 = .ok (.ireturn, 1) := by decide +kernel
theorem dX0_readsOf_8 : decode cX0_readsOf 8 = .ok (.iload_n 1, 1) := by decide +kernel
theorem dX0_readsOf_9 : decode cX0_readsOf 9 = .ok (.invokestatic 39, 3) := by decide +kernel
theorem dX0_readsOf_12 : decode cX0_readsOf 12 = .ok (.ifCond .eq 12, 3) := by decide +kernel
theorem dX0_readsOf_15 : decode cX0_readsOf 15 = .ok (.aload_n 0, 1) := by decide +kernel
theorem dX0_readsOf_16 : decode cX0_readsOf 16 = .ok (.getfield 24, 3) := by decide +kernel
theorem dX0_readsOf_19 : decode cX0_readsOf 19 = .ok (.iload_n 2, 1) := by decide +kernel
theorem dX0_readsOf_20 : decode cX0_readsOf 20 = .ok (.iaload, 1) := by decide +kernel
theorem dX0_readsOf_21 : decode cX0_readsOf 21 = .ok (.goto 4, 3) := by decide +kernel
theorem dX0_readsOf_24 : decode cX0_readsOf 24 = .ok (.iconst 0, 1) := by decide +kernel
theorem dX0_readsOf_25 : decode cX0_readsOf 25 = .ok (.iload_n 1, 1) := by decide +kernel
theorem dX0_readsOf_26 : decode cX0_readsOf 26 = .ok (.invokestatic 45, 3) := by decide +kernel
theorem dX0_readsOf_29 : decode cX0_readsOf 29 = .ok (.ifCond .eq 12, 3) := by decide +kernel
theorem dX0_readsOf_32 : decode cX0_readsOf 32 = .ok (.aload_n 0, 1) := by decide +kernel
theorem dX0_readsOf_33 : decode cX0_readsOf 33 = .ok (.getfield 24, 3) := by decide +kernel
theorem dX0_readsOf_36 : decode cX0_readsOf 36 = .ok (.iload_n 3, 1) := by decide +kernel
theorem dX0_readsOf_37 : decode cX0_readsOf 37 = .ok (.iaload, 1) := by decide +kernel
theorem dX0_readsOf_38 : decode cX0_readsOf 38 = .ok (.goto 4, 3) := by decide +kernel
theorem dX0_readsOf_41 : decode cX0_readsOf 41 = .ok (.iconst 0, 1) := by decide +kernel
theorem dX0_readsOf_42 : decode cX0_readsOf 42 = .ok (.ior, 1) := by decide +kernel
theorem dX0_readsOf_43 : decode cX0_readsOf 43 = .ok (.ireturn, 1) := by decide +kernel
theorem dX0_failsOf_0 : decode cX0_failsOf 0 = .ok (.iload_n 1, 1) := by decide +kernel
theorem dX0_failsOf_1 : decode cX0_failsOf 1 = .ok (.iconst 5, 1) := by decide +kernel
theorem dX0_failsOf_2 : decode cX0_failsOf 2 = .ok (.if_icmp .eq 9, 3) := by decide +kernel
theorem dX0_failsOf_5 : decode cX0_failsOf 5 = .ok (.iload_n 1, 1) := by decide +kernel
theorem dX0_failsOf_6 : decode cX0_failsOf 6 = .ok (.bipush 6, 2) := by decide +kernel
theorem dX0_failsOf_8 : decode cX0_failsOf 8 = .ok (.if_icmp .ne 5, 3) := by decide +kernel
theorem dX0_failsOf_11 : decode cX0_failsOf 11 = .ok (.iconst 1, 1) := by decide +kernel
theorem dX0_failsOf_12 : decode cX0_failsOf 12 = .ok (.ireturn, 1) := by decide +kernel
theorem dX0_failsOf_13 : decode cX0_failsOf 13 = .ok (.iload_n 1, 1) := by decide +kernel
theorem dX0_failsOf_14 : decode cX0_failsOf 14 = .ok (.invokestatic 39, 3) := by decide +kernel
theorem dX0_failsOf_17 : decode cX0_failsOf 17 = .ok (.ifCond .eq 12, 3) := by decide +kernel
theorem dX0_failsOf_20 : decode cX0_failsOf 20 = .ok (.aload_n 0, 1) := by decide +kernel
theorem dX0_failsOf_21 : decode cX0_failsOf 21 = .ok (.getfield 27, 3) := by decide +kernel
theorem dX0_failsOf_24 : decode cX0_failsOf 24 = .ok (.iload_n 2, 1) := by decide +kernel
theorem dX0_failsOf_25 : decode cX0_failsOf 25 = .ok (.baload, 1) := by decide +kernel
theorem dX0_failsOf_26 : decode cX0_failsOf 26 = .ok (.ifCond .ne 19, 3) := by decide +kernel
theorem dX0_failsOf_29 : decode cX0_failsOf 29 = .ok (.iload_n 1, 1) := by decide +kernel
theorem dX0_failsOf_30 : decode cX0_failsOf 30 = .ok (.invokestatic 45, 3) := by decide +kernel
theorem dX0_failsOf_33 : decode cX0_failsOf 33 = .ok (.ifCond .eq 16, 3) := by decide +kernel
theorem dX0_failsOf_36 : decode cX0_failsOf 36 = .ok (.aload_n 0, 1) := by decide +kernel
theorem dX0_failsOf_37 : decode cX0_failsOf 37 = .ok (.getfield 27, 3) := by decide +kernel
theorem dX0_failsOf_40 : decode cX0_failsOf 40 = .ok (.iload_n 3, 1) := by decide +kernel
theorem dX0_failsOf_41 : decode cX0_failsOf 41 = .ok (.baload, 1) := by decide +kernel
theorem dX0_failsOf_42 : decode cX0_failsOf 42 = .ok (.ifCond .eq 7, 3) := by decide +kernel
theorem dX0_failsOf_45 : decode cX0_failsOf 45 = .ok (.iconst 1, 1) := by decide +kernel
theorem dX0_failsOf_46 : decode cX0_failsOf 46 = .ok (.goto 4, 3) := by decide +kernel
theorem dX0_failsOf_49 : decode cX0_failsOf 49 = .ok (.iconst 0, 1) := by decide +kernel
theorem dX0_failsOf_50 : decode cX0_failsOf 50 = .ok (.ireturn, 1) := by decide +kernel
