theorem dX1_init_0 : decode cX1_init 0 = .ok (.aload_n 0, 1) := by decide +kernel
theorem dX1_init_1 : decode cX1_init 1 = .ok (.invokespecial 1, 3) := by decide +kernel
theorem dX1_init_4 : decode cX1_init 4 = .ok (.aload_n 0, 1) := by decide +kernel
theorem dX1_init_5 : decode cX1_init 5 = .ok (.bipush 60, 2) := by decide +kernel
theorem dX1_init_7 : decode cX1_init 7 = .ok (.newarray .int, 2) := by decide +kernel
theorem dX1_init_9 : decode cX1_init 9 = .ok (.putfield 9, 3) := by decide +kernel
theorem dX1_init_12 : decode cX1_init 12 = .ok (.aload_n 0, 1) := by decide +kernel
theorem dX1_init_13 : decode cX1_init 13 = .ok (.bipush 60, 2) := by decide +kernel
theorem dX1_init_15 : decode cX1_init 15 = .ok (.newarray .int, 2) := by decide +kernel
theorem dX1_init_17 : decode cX1_init 17 = .ok (.putfield 13, 3) := by decide +kernel
theorem dX1_init_20 : decode cX1_init 20 = .ok (.aload_n 0, 1) := by decide +kernel
theorem dX1_init_21 : decode cX1_init 21 = .ok (.bipush 60, 2) := by decide +kernel
theorem dX1_init_23 : decode cX1_init 23 = .ok (.newarray .int, 2) := by decide +kernel
theorem dX1_init_25 : decode cX1_init 25 = .ok (.putfield 16, 3) := by decide +kernel
theorem dX1_init_28 : decode cX1_init 28 = .ok (.aload_n 0, 1) := by decide +kernel
theorem dX1_init_29 : decode cX1_init 29 = .ok (.bipush 60, 2) := by decide +kernel
theorem dX1_init_31 : decode cX1_init 31 = .ok (.newarray .int, 2) := by decide +kernel
theorem dX1_init_33 : decode cX1_init 33 = .ok (.putfield 19, 3) := by decide +kernel
theorem dX1_init_36 : decode cX1_init 36 = .ok (.aload_n 0, 1) := by decide +kernel
theorem dX1_init_37 : decode cX1_init 37 = .ok (.bipush 60, 2) := by decide +kernel
theorem dX1_init_39 : decode cX1_init 39 = .ok (.newarray .int, 2) := by decide +kernel
theorem dX1_init_41 : decode cX1_init 41 = .ok (.putfield 22, 3) := by decide +kernel
theorem dX1_init_44 : decode cX1_init 44 = .ok (.aload_n 0, 1) := by decide +kernel
theorem dX1_init_45 : decode cX1_init 45 = .ok (.bipush 60, 2) := by decide +kernel
theorem dX1_init_47 : decode cX1_init 47 = .ok (.newarray .int, 2) := by decide +kernel
theorem dX1_init_49 : decode cX1_init 49 = .ok (.putfield 25, 3) := by decide +kernel
theorem dX1_init_52 : decode cX1_init 52 = .ok (.aload_n 0, 1) := by decide +kernel
theorem dX1_init_53 : decode cX1_init 53 = .ok (.bipush 60, 2) := by decide +kernel
theorem dX1_init_55 : decode cX1_init 55 = .ok (.newarray .boolean, 2) := by decide +kernel
theorem dX1_init_57 : decode cX1_init 57 = .ok (.putfield 28, 3) := by decide +kernel
theorem dX1_init_60 : decode cX1_init 60 = .ok (.aload_n 0, 1) := by decide +kernel
theorem dX1_init_61 : decode cX1_init 61 = .ok (.bipush 60, 2) := by decide +kernel
theorem dX1_init_63 : decode cX1_init 63 = .ok (.newarray .int, 2) := by decide +kernel
theorem dX1_init_65 : decode cX1_init 65 = .ok (.putfield 32, 3) := by decide +kernel
theorem dX1_init_68 : decode cX1_init 68 = .ok (.aload_n 0, 1) := by decide +kernel
theorem dX1_init_69 : decode cX1_init 69 = .ok (.bipush 60, 2) := by decide +kernel
theorem dX1_init_71 : decode cX1_init 71 = .ok (.newarray .int, 2) := by decide +kernel
theorem dX1_init_73 : decode cX1_init 73 = .ok (.putfield 35, 3) := by decide +kernel
theorem dX1_init_76 : decode cX1_init 76 = .ok (.aload_n 0, 1) := by decide +kernel
theorem dX1_init_77 : decode cX1_init 77 = .ok (.bipush 60, 2) := by decide +kernel
theorem dX1_init_79 : decode cX1_init 79 = .ok (.newarray .int, 2) := by decide +kernel
theorem dX1_init_81 : decode cX1_init 81 = .ok (.putfield 38, 3) := by decide +kernel
theorem dX1_init_84 : decode cX1_init 84 = .ok (.aload_n 0, 1) := by decide +kernel
theorem dX1_init_85 : decode cX1_init 85 = .ok (.aload_n 1, 1) := by decide +kernel
theorem dX1_init_86 : decode cX1_init 86 = .ok (.putfield 41, 3) := by decide +kernel
theorem dX1_init_89 : decode cX1_init 89 = .ok (.return_, 1) := by decide +kernel
theorem dX1_has_0 : decode cX1_has 0 = .ok (.iload_n 1, 1) := by decide +kernel
theorem dX1_has_1 : decode cX1_has 1 = .ok (.ifCond .lt 15, 3) := by decide +kernel
theorem dX1_has_4 : decode cX1_has 4 = .ok (.iload_n 1, 1) := by decide +kernel
theorem dX1_has_5 : decode cX1_has 5 = .ok (.aload_n 0, 1) := by decide +kernel
theorem dX1_has_6 : decode cX1_has 6 = .ok (.getfield 45, 3) := by decide +kernel
theorem dX1_has_9 : decode cX1_has 9 = .ok (.if_icmp .ge 7, 3) := by decide +kernel
theorem dX1_has_12 : decode cX1_has 12 = .ok (.iconst 1, 1) := by decide +kernel
theorem dX1_has_13 : decode cX1_has 13 = .ok (.goto 4, 3) := by decide +kernel
theorem dX1_has_16 : decode cX1_has 16 = .ok (.iconst 0, 1) := by decide +kernel
theorem dX1_has_17 : decode cX1_has 17 = .ok (.ireturn, 1) := by decide +kernel
theorem dX1_hasRoom_0 : decode cX1_hasRoom 0 = .ok (.aload_n 0, 1) := by decide +kernel
theorem dX1_hasRoom_1 : decode cX1_hasRoom 1 = .ok (.getfield 45, 3) := by decide +kernel
theorem dX1_hasRoom_4 : decode cX1_hasRoom 4 = .ok (.iload_n 1, 1) := by decide +kernel
theorem dX1_hasRoom_5 : decode cX1_hasRoom 5 = .ok (.iadd, 1) := by decide +kernel
theorem dX1_hasRoom_6 : decode cX1_hasRoom 6 = .ok (.bipush 60, 2) := by decide +kernel
theorem dX1_hasRoom_8 : decode cX1_hasRoom 8 = .ok (.if_icmp .gt 7, 3) := by decide +kernel
theorem dX1_hasRoom_11 : decode cX1_hasRoom 11 = .ok (.iconst 1, 1) := by decide +kernel
theorem dX1_hasRoom_12 : decode cX1_hasRoom 12 = .ok (.goto 4, 3) := by decide +kernel
theorem dX1_hasRoom_15 : decode cX1_hasRoom 15 = .ok (.iconst 0, 1) := by decide +kernel
theorem dX1_hasRoom_16 : decode cX1_hasRoom 16 = .ok (.ireturn, 1) := by decide +kernel
theorem dX1_isAsTold_0 : decode cX1_isAsTold 0 = .ok (.iload_n 1, 1) := by decide +kernel
theorem dX1_isAsTold_1 : decode cX1_isAsTold 1 = .ok (.ifCond .lt 9, 3) := by decide +kernel
theorem dX1_isAsTold_4 : decode cX1_isAsTold 4 = .ok (.iload_n 1, 1) := by decide +kernel
theorem dX1_isAsTold_5 : decode cX1_isAsTold 5 = .ok (.bipush 9, 2) := by decide +kernel
theorem dX1_isAsTold_7 : decode cX1_isAsTold 7 = .ok (.if_icmp .lt 5, 3) := by decide +kernel
theorem dX1_isAsTold_10 : decode cX1_isAsTold 10 = .ok (.iconst 0, 1) := by decide +kernel
theorem dX1_isAsTold_11 : decode cX1_isAsTold 11 = .ok (.ireturn, 1) := by decide +kernel
theorem dX1_isAsTold_12 : decode cX1_isAsTold 12 = .ok (.iload_n 1, 1) := by decide +kernel
theorem dX1_isAsTold_13 : decode cX1_isAsTold 13 = .ok (.ifCond .ne 18, 3) := by decide +kernel
theorem dX1_isAsTold_16 : decode cX1_isAsTold 16 = .ok (.iload_n 2, 1) := by decide +kernel
theorem dX1_isAsTold_17 : decode cX1_isAsTold 17 = .ok (.ifCond .lt 12, 3) := by decide +kernel
theorem dX1_isAsTold_20 : decode cX1_isAsTold 20 = .ok (.iload_n 2, 1) := by decide +kernel
theorem dX1_isAsTold_21 : decode cX1_isAsTold 21 = .ok (.iconst 4, 1) := by decide +kernel
theorem dX1_isAsTold_22 : decode cX1_isAsTold 22 = .ok (.if_icmp .ge 7, 3) := by decide +kernel
theorem dX1_isAsTold_25 : decode cX1_isAsTold 25 = .ok (.iconst 1, 1) := by decide +kernel
theorem dX1_isAsTold_26 : decode cX1_isAsTold 26 = .ok (.goto 4, 3) := by decide +kernel
theorem dX1_isAsTold_29 : decode cX1_isAsTold 29 = .ok (.iconst 0, 1) := by decide +kernel
theorem dX1_isAsTold_30 : decode cX1_isAsTold 30 = .ok (.ireturn, 1) := by decide +kernel
theorem dX1_isAsTold_31 : decode cX1_isAsTold 31 = .ok (.aload_n 0, 1) := by decide +kernel
theorem dX1_isAsTold_32 : decode cX1_isAsTold 32 = .ok (.iload_n 2, 1) := by decide +kernel
theorem dX1_isAsTold_33 : decode cX1_isAsTold 33 = .ok (.invokevirtual 51, 3) := by decide +kernel
theorem dX1_isAsTold_36 : decode cX1_isAsTold 36 = .ok (.ifCond .eq 49, 3) := by decide +kernel
theorem dX1_isAsTold_39 : decode cX1_isAsTold 39 = .ok (.iload_n 1, 1) := by decide +kernel
theorem dX1_isAsTold_40 : decode cX1_isAsTold 40 = .ok (.invokestatic 55, 3) := by decide +kernel
theorem dX1_isAsTold_43 : decode cX1_isAsTold 43 = .ok (.ifCond .eq 11, 3) := by decide +kernel
theorem dX1_isAsTold_46 : decode cX1_isAsTold 46 = .ok (.aload_n 0, 1) := by decide +kernel
theorem dX1_isAsTold_47 : decode cX1_isAsTold 47 = .ok (.iload_n 3, 1) := by decide +kernel
theorem dX1_isAsTold_48 : decode cX1_isAsTold 48 = .ok (.invokevirtual 51, 3) := by decide +kernel
theorem dX1_isAsTold_51 : decode cX1_isAsTold 51 = .ok (.ifCond .eq 34, 3) := by decide +kernel
theorem dX1_isAsTold_54 : decode cX1_isAsTold 54 = .ok (.iload_n 1, 1) := by decide +kernel
theorem dX1_isAsTold_55 : decode cX1_isAsTold 55 = .ok (.invokestatic 58, 3) := by decide +kernel
theorem dX1_isAsTold_58 : decode cX1_isAsTold 58 = .ok (.ifCond .eq 11, 3) := by decide +kernel
theorem dX1_isAsTold_61 : decode cX1_isAsTold 61 = .ok (.iload 4, 2) := by decide +kernel
theorem dX1_isAsTold_63 : decode cX1_isAsTold 63 = .ok (.invokestatic 61, 3) := by decide +kernel
theorem dX1_isAsTold_66 : decode cX1_isAsTold 66 = .ok (.ifCond .eq 19, 3) := by decide +kernel
theorem dX1_isAsTold_69 : decode cX1_isAsTold 69 = .ok (.aload_n 0, 1) := by decide +kernel
theorem dX1_isAsTold_70 : decode cX1_isAsTold 70 = .ok (.iload_n 1, 1) := by decide +kernel
theorem dX1_isAsTold_71 : decode cX1_isAsTold 71 = .ok (.iload 4, 2) := by decide +kernel
theorem dX1_isAsTold_73 : decode cX1_isAsTold 73 = .ok (.iload 5, 2) := by decide +kernel
theorem dX1_isAsTold_75 : decode cX1_isAsTold 75 = .ok (.invokevirtual 66, 3) := by decide +kernel
theorem dX1_isAsTold_78 : decode cX1_isAsTold 78 = .ok (.ifCond .eq 7, 3) := by decide +kernel
theorem dX1_isAsTold_81 : decode cX1_isAsTold 81 = .ok (.iconst 1, 1) := by decide +kernel
theorem dX1_isAsTold_82 : decode cX1_isAsTold 82 = .ok (.goto 4, 3) := by decide +kernel
theorem dX1_isAsTold_85 : decode cX1_isAsTold 85 = .ok (.iconst 0, 1) := by decide +kernel
theorem dX1_isAsTold_86 : decode cX1_isAsTold 86 = .ok (.ireturn, 1) := by decide +kernel
theorem dX1_isValue_0 : decode cX1_isValue 0 = .ok (.iload_n 1, 1) := by decide +kernel
theorem dX1_isValue_1 : decode cX1_isValue 1 = .ok (.tableswitch 95 1 8 #[47, 47, 56, 56, 95, 61, 95, 79], 47) := by decide +kernel
theorem dX1_isValue_48 : decode cX1_isValue 48 = .ok (.aload_n 0, 1) := by decide +kernel
theorem dX1_isValue_49 : decode cX1_isValue 49 = .ok (.getfield 41, 3) := by decide +kernel
theorem dX1_isValue_52 : decode cX1_isValue 52 = .ok (.iload_n 3, 1) := by decide +kernel
theorem dX1_isValue_53 : decode cX1_isValue 53 = .ok (.invokevirtual 70, 3) := by decide +kernel
theorem dX1_isValue_56 : decode cX1_isValue 56 = .ok (.ireturn, 1) := by decide +kernel
theorem dX1_isValue_57 : decode cX1_isValue 57 = .ok (.iload_n 3, 1) := by decide +kernel
theorem dX1_isValue_58 : decode cX1_isValue 58 = .ok (.invokestatic 73, 3) := by decide +kernel
theorem dX1_isValue_61 : decode cX1_isValue 61 = .ok (.ireturn, 1) := by decide +kernel
theorem dX1_isValue_62 : decode cX1_isValue 62 = .ok (.iload_n 3, 1) := by decide +kernel
theorem dX1_isValue_63 : decode cX1_isValue 63 = .ok (.invokestatic 61, 3) := by decide +kernel
theorem dX1_isValue_66 : decode cX1_isValue 66 = .ok (.ifCond .eq 12, 3) := by decide +kernel
theorem dX1_isValue_69 : decode cX1_isValue 69 = .ok (.iload_n 3, 1) := by decide +kernel
theorem dX1_isValue_70 : decode cX1_isValue 70 = .ok (.iload_n 2, 1) := by decide +kernel
theorem dX1_isValue_71 : decode cX1_isValue 71 = .ok (.if_icmp .eq 7, 3) := by decide +kernel
theorem dX1_isValue_74 : decode cX1_isValue 74 = .ok (.iconst 1, 1) := by decide +kernel
theorem dX1_isValue_75 : decode cX1_isValue 75 = .ok (.goto 4, 3) := by decide +kernel
theorem dX1_isValue_78 : decode cX1_isValue 78 = .ok (.iconst 0, 1) := by decide +kernel
theorem dX1_isValue_79 : decode cX1_isValue 79 = .ok (.ireturn, 1) := by decide +kernel
theorem dX1_isValue_80 : decode cX1_isValue 80 = .ok (.iload_n 3, 1) := by decide +kernel
theorem dX1_isValue_81 : decode cX1_isValue 81 = .ok (.ifCond .lt 13, 3) := by decide +kernel
theorem dX1_isValue_84 : decode cX1_isValue 84 = .ok (.iload_n 3, 1) := by decide +kernel
theorem dX1_isValue_85 : decode cX1_isValue 85 = .ok (.bipush 100, 2) := by decide +kernel
theorem dX1_isValue_87 : decode cX1_isValue 87 = .ok (.if_icmp .gt 7, 3) := by decide +kernel
theorem dX1_isValue_90 : decode cX1_isValue 90 = .ok (.iconst 1, 1) := by decide +kernel
theorem dX1_isValue_91 : decode cX1_isValue 91 = .ok (.goto 4, 3) := by decide +kernel
theorem dX1_isValue_94 : decode cX1_isValue 94 = .ok (.iconst 0, 1) := by decide +kernel
theorem dX1_isValue_95 : decode cX1_isValue 95 = .ok (.ireturn, 1) := by decide +kernel
theorem dX1_isValue_96 : decode cX1_isValue 96 = .ok (.iconst 1, 1) := by decide +kernel
theorem dX1_isValue_97 : decode cX1_isValue 97 = .ok (.ireturn, 1) := by decide +kernel
theorem dX1_takesRight_0 : decode cX1_takesRight 0 = .ok (.iload_n 0, 1) := by decide +kernel
theorem dX1_takesRight_1 : decode cX1_takesRight 1 = .ok (.iconst 4, 1) := by decide +kernel
theorem dX1_takesRight_2 : decode cX1_takesRight 2 = .ok (.if_icmp .eq 8, 3) := by decide +kernel
theorem dX1_takesRight_5 : decode cX1_takesRight 5 = .ok (.iload_n 0, 1) := by decide +kernel
theorem dX1_takesRight_6 : decode cX1_takesRight 6 = .ok (.iconst 5, 1) := by decide +kernel
theorem dX1_takesRight_7 : decode cX1_takesRight 7 = .ok (.if_icmp .ne 7, 3) := by decide +kernel
theorem dX1_takesRight_10 : decode cX1_takesRight 10 = .ok (.iconst 1, 1) := by decide +kernel
theorem dX1_takesRight_11 : decode cX1_takesRight 11 = .ok (.goto 4, 3) := by decide +kernel
theorem dX1_takesRight_14 : decode cX1_takesRight 14 = .ok (.iconst 0, 1) := by decide +kernel
theorem dX1_takesRight_15 : decode cX1_takesRight 15 = .ok (.ireturn, 1) := by decide +kernel
theorem dX1_takesMember_0 : decode cX1_takesMember 0 = .ok (.iload_n 0, 1) := by decide +kernel
theorem dX1_takesMember_1 : decode cX1_takesMember 1 = .ok (.iconst 2, 1) := by decide +kernel
theorem dX1_takesMember_2 : decode cX1_takesMember 2 = .ok (.if_icmp .eq 14, 3) := by decide +kernel
theorem dX1_takesMember_5 : decode cX1_takesMember 5 = .ok (.iload_n 0, 1) := by decide +kernel
theorem dX1_takesMember_6 : decode cX1_takesMember 6 = .ok (.iconst 4, 1) := by decide +kernel
theorem dX1_takesMember_7 : decode cX1_takesMember 7 = .ok (.if_icmp .eq 9, 3) := by decide +kernel
theorem dX1_takesMember_10 : decode cX1_takesMember 10 = .ok (.iload_n 0, 1) := by decide +kernel
theorem dX1_takesMember_11 : decode cX1_takesMember 11 = .ok (.bipush 6, 2) := by decide +kernel
theorem dX1_takesMember_13 : decode cX1_takesMember 13 = .ok (.if_icmp .ne 7, 3) := by decide +kernel
theorem dX1_takesMember_16 : decode cX1_takesMember 16 = .ok (.iconst 1, 1) := by decide +kernel
theorem dX1_takesMember_17 : decode cX1_takesMember 17 = .ok (.goto 4, 3) := by decide +kernel
theorem dX1_takesMember_20 : decode cX1_takesMember 20 = .ok (.iconst 0, 1) := by decide +kernel
theorem dX1_takesMember_21 : decode cX1_takesMember 21 = .ok (.ireturn, 1) := by decide +kernel
theorem dX1_takesValue_0 : decode cX1_takesValue 0 = .ok (.iload_n 0, 1) := by decide +kernel
theorem dX1_takesValue_1 : decode cX1_takesValue 1 = .ok (.ifCond .eq 18, 3) := by decide +kernel
theorem dX1_takesValue_4 : decode cX1_takesValue 4 = .ok (.iload_n 0, 1) := by decide +kernel
theorem dX1_takesValue_5 : decode cX1_takesValue 5 = .ok (.iconst 5, 1) := by decide +kernel
theorem dX1_takesValue_6 : decode cX1_takesValue 6 = .ok (.if_icmp .eq 13, 3) := by decide +kernel
theorem dX1_takesValue_9 : decode cX1_takesValue 9 = .ok (.iload_n 0, 1) := by decide +kernel
theorem dX1_takesValue_10 : decode cX1_takesValue 10 = .ok (.bipush 7, 2) := by decide +kernel
theorem dX1_takesValue_12 : decode cX1_takesValue 12 = .ok (.if_icmp .eq 7, 3) := by decide +kernel
theorem dX1_takesValue_15 : decode cX1_takesValue 15 = .ok (.iconst 1, 1) := by decide +kernel
theorem dX1_takesValue_16 : decode cX1_takesValue 16 = .ok (.goto 4, 3) := by decide +kernel
theorem dX1_takesValue_19 : decode cX1_takesValue 19 = .ok (.iconst 0, 1) := by decide +kernel
theorem dX1_takesValue_20 : decode cX1_takesValue 20 = .ok (.ireturn, 1) := by decide +kernel
theorem dX1_takesFormula_0 : decode cX1_takesFormula 0 = .ok (.iload_n 0, 1) := by decide +kernel
theorem dX1_takesFormula_1 : decode cX1_takesFormula 1 = .ok (.iconst 1, 1) := by decide +kernel
theorem dX1_takesFormula_2 : decode cX1_takesFormula 2 = .ok (.if_icmp .eq 8, 3) := by decide +kernel
theorem dX1_takesFormula_5 : decode cX1_takesFormula 5 = .ok (.iload_n 0, 1) := by decide +kernel
theorem dX1_takesFormula_6 : decode cX1_takesFormula 6 = .ok (.iconst 2, 1) := by decide +kernel
theorem dX1_takesFormula_7 : decode cX1_takesFormula 7 = .ok (.if_icmp .ne 7, 3) := by decide +kernel
theorem dX1_takesFormula_10 : decode cX1_takesFormula 10 = .ok (.iconst 1, 1) := by decide +kernel
theorem dX1_takesFormula_11 : decode cX1_takesFormula 11 = .ok (.goto 4, 3) := by decide +kernel
theorem dX1_takesFormula_14 : decode cX1_takesFormula 14 = .ok (.iconst 0, 1) := by decide +kernel
theorem dX1_takesFormula_15 : decode cX1_takesFormula 15 = .ok (.ireturn, 1) := by decide +kernel
theorem dX1_boundOf_0 : decode cX1_boundOf 0 = .ok (.iload_n 1, 1) := by decide +kernel
theorem dX1_boundOf_1 : decode cX1_boundOf 1 = .ok (.tableswitch 94 0 8 #[51, 94, 94, 94, 54, 68, 94, 94, 82], 51) := by decide +kernel
theorem dX1_boundOf_52 : decode cX1_boundOf 52 = .ok (.bipush 6, 2) := by decide +kernel
theorem dX1_boundOf_54 : decode cX1_boundOf 54 = .ok (.ireturn, 1) := by decide +kernel
theorem dX1_boundOf_55 : decode cX1_boundOf 55 = .ok (.aload_n 0, 1) := by decide +kernel
theorem dX1_boundOf_56 : decode cX1_boundOf 56 = .ok (.getfield 25, 3) := by decide +kernel
theorem dX1_boundOf_59 : decode cX1_boundOf 59 = .ok (.iload_n 2, 1) := by decide +kernel
theorem dX1_boundOf_60 : decode cX1_boundOf 60 = .ok (.iaload, 1) := by decide +kernel
theorem dX1_boundOf_61 : decode cX1_boundOf 61 = .ok (.aload_n 0, 1) := by decide +kernel
theorem dX1_boundOf_62 : decode cX1_boundOf 62 = .ok (.getfield 25, 3) := by decide +kernel
theorem dX1_boundOf_65 : decode cX1_boundOf 65 = .ok (.iload_n 3, 1) := by decide +kernel
theorem dX1_boundOf_66 : decode cX1_boundOf 66 = .ok (.iaload, 1) := by decide +kernel
theorem dX1_boundOf_67 : decode cX1_boundOf 67 = .ok (.imul, 1) := by decide +kernel
theorem dX1_boundOf_68 : decode cX1_boundOf 68 = .ok (.ireturn, 1) := by decide +kernel
theorem dX1_boundOf_69 : decode cX1_boundOf 69 = .ok (.aload_n 0, 1) := by decide +kernel
theorem dX1_boundOf_70 : decode cX1_boundOf 70 = .ok (.getfield 25, 3) := by decide +kernel
theorem dX1_boundOf_73 : decode cX1_boundOf 73 = .ok (.iload_n 2, 1) := by decide +kernel
theorem dX1_boundOf_74 : decode cX1_boundOf 74 = .ok (.iaload, 1) := by decide +kernel
theorem dX1_boundOf_75 : decode cX1_boundOf 75 = .ok (.aload_n 0, 1) := by decide +kernel
theorem dX1_boundOf_76 : decode cX1_boundOf 76 = .ok (.getfield 25, 3) := by decide +kernel
theorem dX1_boundOf_79 : decode cX1_boundOf 79 = .ok (.iload_n 3, 1) := by decide +kernel
theorem dX1_boundOf_80 : decode cX1_boundOf 80 = .ok (.iaload, 1) := by decide +kernel
theorem dX1_boundOf_81 : decode cX1_boundOf 81 = .ok (.iadd, 1) := by decide +kernel
theorem dX1_boundOf_82 : decode cX1_boundOf 82 = .ok (.ireturn, 1) := by decide +kernel
theorem dX1_boundOf_83 : decode cX1_boundOf 83 = .ok (.iload 4, 2) := by decide +kernel
theorem dX1_boundOf_85 : decode cX1_boundOf 85 = .ok (.aload_n 0, 1) := by decide +kernel
theorem dX1_boundOf_86 : decode cX1_boundOf 86 = .ok (.getfield 25, 3) := by decide +kernel
theorem dX1_boundOf_89 : decode cX1_boundOf 89 = .ok (.iload_n 2, 1) := by decide +kernel
theorem dX1_boundOf_90 : decode cX1_boundOf 90 = .ok (.iaload, 1) := by decide +kernel
theorem dX1_boundOf_91 : decode cX1_boundOf 91 = .ok (.invokestatic 76, 3) := by decide +kernel
theorem dX1_boundOf_94 : decode cX1_boundOf 94 = .ok (.ireturn, 1) := by decide +kernel
theorem dX1_boundOf_95 : decode cX1_boundOf 95 = .ok (.aload_n 0, 1) := by decide +kernel
theorem dX1_boundOf_96 : decode cX1_boundOf 96 = .ok (.getfield 25, 3) := by decide +kernel
theorem dX1_boundOf_99 : decode cX1_boundOf 99 = .ok (.iload_n 2, 1) := by decide +kernel
theorem dX1_boundOf_100 : decode cX1_boundOf 100 = .ok (.iaload, 1) := by decide +kernel
theorem dX1_boundOf_101 : decode cX1_boundOf 101 = .ok (.ireturn, 1) := by decide +kernel
theorem dX1_failsOf_0 : decode cX1_failsOf 0 = .ok (.iload_n 1, 1) := by decide +kernel
theorem dX1_failsOf_1 : decode cX1_failsOf 1 = .ok (.ifCond .ne 5, 3) := by decide +kernel
theorem dX1_failsOf_4 : decode cX1_failsOf 4 = .ok (.iconst 0, 1) := by decide +kernel
theorem dX1_failsOf_5 : decode cX1_failsOf 5 = .ok (.ireturn, 1) := by decide +kernel
theorem dX1_failsOf_6 : decode cX1_failsOf 6 = .ok (.aload_n 0, 1) := by decide +kernel
theorem dX1_failsOf_7 : decode cX1_failsOf 7 = .ok (.getfield 28, 3) := by decide +kernel
theorem dX1_failsOf_10 : decode cX1_failsOf 10 = .ok (.iload_n 2, 1) := by decide +kernel
theorem dX1_failsOf_11 : decode cX1_failsOf 11 = .ok (.baload, 1) := by decide +kernel
theorem dX1_failsOf_12 : decode cX1_failsOf 12 = .ok (.ifCond .ne 39, 3) := by decide +kernel
theorem dX1_failsOf_15 : decode cX1_failsOf 15 = .ok (.iload_n 1, 1) := by decide +kernel
theorem dX1_failsOf_16 : decode cX1_failsOf 16 = .ok (.invokestatic 55, 3) := by decide +kernel
theorem dX1_failsOf_19 : decode cX1_failsOf 19 = .ok (.ifCond .eq 12, 3) := by decide +kernel
theorem dX1_failsOf_22 : decode cX1_failsOf 22 = .ok (.aload_n 0, 1) := by decide +kernel
theorem dX1_failsOf_23 : decode cX1_failsOf 23 = .ok (.getfield 28, 3) := by decide +kernel
theorem dX1_failsOf_26 : decode cX1_failsOf 26 = .ok (.iload_n 3, 1) := by decide +kernel
theorem dX1_failsOf_27 : decode cX1_failsOf 27 = .ok (.baload, 1) := by decide +kernel
theorem dX1_failsOf_28 : decode cX1_failsOf 28 = .ok (.ifCond .ne 23, 3) := by decide +kernel
theorem dX1_failsOf_31 : decode cX1_failsOf 31 = .ok (.iload_n 1, 1) := by decide +kernel
theorem dX1_failsOf_32 : decode cX1_failsOf 32 = .ok (.invokestatic 82, 3) := by decide +kernel
theorem dX1_failsOf_35 : decode cX1_failsOf 35 = .ok (.ifCond .eq 20, 3) := by decide +kernel
theorem dX1_failsOf_38 : decode cX1_failsOf 38 = .ok (.aload_n 0, 1) := by decide +kernel
theorem dX1_failsOf_39 : decode cX1_failsOf 39 = .ok (.getfield 41, 3) := by decide +kernel
theorem dX1_failsOf_42 : decode cX1_failsOf 42 = .ok (.getfield 85, 3) := by decide +kernel
theorem dX1_failsOf_45 : decode cX1_failsOf 45 = .ok (.iload 4, 2) := by decide +kernel
theorem dX1_failsOf_47 : decode cX1_failsOf 47 = .ok (.baload, 1) := by decide +kernel
theorem dX1_failsOf_48 : decode cX1_failsOf 48 = .ok (.ifCond .eq 7, 3) := by decide +kernel
theorem dX1_failsOf_51 : decode cX1_failsOf 51 = .ok (.iconst 1, 1) := by decide +kernel
theorem dX1_failsOf_52 : decode cX1_failsOf 52 = .ok (.goto 4, 3) := by decide +kernel
theorem dX1_failsOf_55 : decode cX1_failsOf 55 = .ok (.iconst 0, 1) := by decide +kernel
theorem dX1_failsOf_56 : decode cX1_failsOf 56 = .ok (.ireturn, 1) := by decide +kernel
theorem dX1_add_0 : decode cX1_add 0 = .ok (.aload_n 0, 1) := by decide +kernel
theorem dX1_add_1 : decode cX1_add 1 = .ok (.getfield 45, 3) := by decide +kernel
theorem dX1_add_4 : decode cX1_add 4 = .ok (.istore 6, 2) := by decide +kernel
theorem dX1_add_6 : decode cX1_add 6 = .ok (.aload_n 0, 1) := by decide +kernel
theorem dX1_add_7 : decode cX1_add 7 = .ok (.dup, 1) := by decide +kernel
theorem dX1_add_8 : decode cX1_add 8 = .ok (.getfield 45, 3) := by decide +kernel
theorem dX1_add_11 : decode cX1_add 11 = .ok (.iconst 1, 1) := by decide +kernel
theorem dX1_add_12 : decode cX1_add 12 = .ok (.iadd, 1) := by decide +kernel
theorem dX1_add_13 : decode cX1_add 13 = .ok (.putfield 45, 3) := by decide +kernel
theorem dX1_add_16 : decode cX1_add 16 = .ok (.aload_n 0, 1) := by decide +kernel
theorem dX1_add_17 : decode cX1_add 17 = .ok (.iload 6, 2) := by decide +kernel
theorem dX1_add_19 : decode cX1_add 19 = .ok (.iload_n 1, 1) := by decide +kernel
theorem dX1_add_20 : decode cX1_add 20 = .ok (.iload_n 2, 1) := by decide +kernel
theorem dX1_add_21 : decode cX1_add 21 = .ok (.iload_n 3, 1) := by decide +kernel
theorem dX1_add_22 : decode cX1_add 22 = .ok (.iload 4, 2) := by decide +kernel
theorem dX1_add_24 : decode cX1_add 24 = .ok (.iload 5, 2) := by decide +kernel
theorem dX1_add_26 : decode cX1_add 26 = .ok (.invokevirtual 86, 3) := by decide +kernel
theorem dX1_add_29 : decode cX1_add 29 = .ok (.iload 6, 2) := by decide +kernel
theorem dX1_add_31 : decode cX1_add 31 = .ok (.ireturn, 1) := by decide +kernel
theorem dX1_write_0 : decode cX1_write 0 = .ok (.aload_n 0, 1) := by decide +kernel
theorem dX1_write_1 : decode cX1_write 1 = .ok (.getfield 25, 3) := by decide +kernel
theorem dX1_write_4 : decode cX1_write 4 = .ok (.iload_n 1, 1) := by decide +kernel
theorem dX1_write_5 : decode cX1_write 5 = .ok (.aload_n 0, 1) := by decide +kernel
theorem dX1_write_6 : decode cX1_write 6 = .ok (.iload_n 2, 1) := by decide +kernel
theorem dX1_write_7 : decode cX1_write 7 = .ok (.iload_n 3, 1) := by decide +kernel
theorem dX1_write_8 : decode cX1_write 8 = .ok (.iload 4, 2) := by decide +kernel
theorem dX1_write_10 : decode cX1_write 10 = .ok (.iload 6, 2) := by decide +kernel
theorem dX1_write_12 : decode cX1_write 12 = .ok (.invokevirtual 90, 3) := by decide +kernel
theorem dX1_write_15 : decode cX1_write 15 = .ok (.iastore, 1) := by decide +kernel
theorem dX1_write_16 : decode cX1_write 16 = .ok (.aload_n 0, 1) := by decide +kernel
theorem dX1_write_17 : decode cX1_write 17 = .ok (.getfield 28, 3) := by decide +kernel
theorem dX1_write_20 : decode cX1_write 20 = .ok (.iload_n 1, 1) := by decide +kernel
theorem dX1_write_21 : decode cX1_write 21 = .ok (.aload_n 0, 1) := by decide +kernel
theorem dX1_write_22 : decode cX1_write 22 = .ok (.iload_n 2, 1) := by decide +kernel
theorem dX1_write_23 : decode cX1_write 23 = .ok (.iload_n 3, 1) := by decide +kernel
theorem dX1_write_24 : decode cX1_write 24 = .ok (.iload 4, 2) := by decide +kernel
theorem dX1_write_26 : decode cX1_write 26 = .ok (.iload 6, 2) := by decide +kernel
theorem dX1_write_28 : decode cX1_write 28 = .ok (.invokevirtual 94, 3) := by decide +kernel
theorem dX1_write_31 : decode cX1_write 31 = .ok (.bastore, 1) := by decide +kernel
theorem dX1_write_32 : decode cX1_write 32 = .ok (.aload_n 0, 1) := by decide +kernel
theorem dX1_write_33 : decode cX1_write 33 = .ok (.getfield 9, 3) := by decide +kernel
theorem dX1_write_36 : decode cX1_write 36 = .ok (.iload_n 1, 1) := by decide +kernel
theorem dX1_write_37 : decode cX1_write 37 = .ok (.iload_n 2, 1) := by decide +kernel
theorem dX1_write_38 : decode cX1_write 38 = .ok (.iastore, 1) := by decide +kernel
theorem dX1_write_39 : decode cX1_write 39 = .ok (.aload_n 0, 1) := by decide +kernel
theorem dX1_write_40 : decode cX1_write 40 = .ok (.getfield 13, 3) := by decide +kernel
theorem dX1_write_43 : decode cX1_write 43 = .ok (.iload_n 1, 1) := by decide +kernel
theorem dX1_write_44 : decode cX1_write 44 = .ok (.iload_n 3, 1) := by decide +kernel
theorem dX1_write_45 : decode cX1_write 45 = .ok (.iastore, 1) := by decide +kernel
theorem dX1_write_46 : decode cX1_write 46 = .ok (.aload_n 0, 1) := by decide +kernel
theorem dX1_write_47 : decode cX1_write 47 = .ok (.getfield 16, 3) := by decide +kernel
theorem dX1_write_50 : decode cX1_write 50 = .ok (.iload_n 1, 1) := by decide +kernel
theorem dX1_write_51 : decode cX1_write 51 = .ok (.iload_n 2, 1) := by decide +kernel
theorem dX1_write_52 : decode cX1_write 52 = .ok (.invokestatic 55, 3) := by decide +kernel
theorem dX1_write_55 : decode cX1_write 55 = .ok (.ifCond .eq 8, 3) := by decide +kernel
theorem dX1_write_58 : decode cX1_write 58 = .ok (.iload 4, 2) := by decide +kernel
theorem dX1_write_60 : decode cX1_write 60 = .ok (.goto 4, 3) := by decide +kernel
theorem dX1_write_63 : decode cX1_write 63 = .ok (.iconst 0, 1) := by decide +kernel
theorem dX1_write_64 : decode cX1_write 64 = .ok (.iastore, 1) := by decide +kernel
theorem dX1_write_65 : decode cX1_write 65 = .ok (.aload_n 0, 1) := by decide +kernel
theorem dX1_write_66 : decode cX1_write 66 = .ok (.getfield 19, 3) := by decide +kernel
theorem dX1_write_69 : decode cX1_write 69 = .ok (.iload_n 1, 1) := by decide +kernel
theorem dX1_write_70 : decode cX1_write 70 = .ok (.iload_n 2, 1) := by decide +kernel
theorem dX1_write_71 : decode cX1_write 71 = .ok (.invokestatic 58, 3) := by decide +kernel
theorem dX1_write_74 : decode cX1_write 74 = .ok (.ifCond .eq 8, 3) := by decide +kernel
theorem dX1_write_77 : decode cX1_write 77 = .ok (.iload 5, 2) := by decide +kernel
theorem dX1_write_79 : decode cX1_write 79 = .ok (.goto 4, 3) := by decide +kernel
theorem dX1_write_82 : decode cX1_write 82 = .ok (.iconst 0, 1) := by decide +kernel
theorem dX1_write_83 : decode cX1_write 83 = .ok (.iastore, 1) := by decide +kernel
theorem dX1_write_84 : decode cX1_write 84 = .ok (.aload_n 0, 1) := by decide +kernel
theorem dX1_write_85 : decode cX1_write 85 = .ok (.getfield 22, 3) := by decide +kernel
theorem dX1_write_88 : decode cX1_write 88 = .ok (.iload_n 1, 1) := by decide +kernel
theorem dX1_write_89 : decode cX1_write 89 = .ok (.iload_n 2, 1) := by decide +kernel
theorem dX1_write_90 : decode cX1_write 90 = .ok (.invokestatic 98, 3) := by decide +kernel
theorem dX1_write_93 : decode cX1_write 93 = .ok (.ifCond .eq 8, 3) := by decide +kernel
theorem dX1_write_96 : decode cX1_write 96 = .ok (.iload 6, 2) := by decide +kernel
theorem dX1_write_98 : decode cX1_write 98 = .ok (.goto 4, 3) := by decide +kernel
theorem dX1_write_101 : decode cX1_write 101 = .ok (.iconst 0, 1) := by decide +kernel
theorem dX1_write_102 : decode cX1_write 102 = .ok (.iastore, 1) := by decide +kernel
theorem dX1_write_103 : decode cX1_write 103 = .ok (.return_, 1) := by decide +kernel
theorem dX1_listFrom_0 : decode cX1_listFrom 0 = .ok (.aload_n 0, 1) := by decide +kernel
theorem dX1_listFrom_1 : decode cX1_listFrom 1 = .ok (.getfield 38, 3) := by decide +kernel
theorem dX1_listFrom_4 : decode cX1_listFrom 4 = .ok (.iconst 0, 1) := by decide +kernel
theorem dX1_listFrom_5 : decode cX1_listFrom 5 = .ok (.invokestatic 101, 3) := by decide +kernel
theorem dX1_listFrom_8 : decode cX1_listFrom 8 = .ok (.aload_n 0, 1) := by decide +kernel
theorem dX1_listFrom_9 : decode cX1_listFrom 9 = .ok (.getfield 35, 3) := by decide +kernel
theorem dX1_listFrom_12 : decode cX1_listFrom 12 = .ok (.iconst 0, 1) := by decide +kernel
theorem dX1_listFrom_13 : decode cX1_listFrom 13 = .ok (.iload_n 1, 1) := by decide +kernel
theorem dX1_listFrom_14 : decode cX1_listFrom 14 = .ok (.iastore, 1) := by decide +kernel
theorem dX1_listFrom_15 : decode cX1_listFrom 15 = .ok (.iconst 1, 1) := by decide +kernel
theorem dX1_listFrom_16 : decode cX1_listFrom 16 = .ok (.istore_n 2, 1) := by decide +kernel
theorem dX1_listFrom_17 : decode cX1_listFrom 17 = .ok (.iconst 0, 1) := by decide +kernel
theorem dX1_listFrom_18 : decode cX1_listFrom 18 = .ok (.istore_n 3, 1) := by decide +kernel
theorem dX1_listFrom_19 : decode cX1_listFrom 19 = .ok (.iconst 0, 1) := by decide +kernel
theorem dX1_listFrom_20 : decode cX1_listFrom 20 = .ok (.istore 4, 2) := by decide +kernel
theorem dX1_listFrom_22 : decode cX1_listFrom 22 = .ok (.iload 4, 2) := by decide +kernel
theorem dX1_listFrom_24 : decode cX1_listFrom 24 = .ok (.sipush 180, 3) := by decide +kernel
theorem dX1_listFrom_27 : decode cX1_listFrom 27 = .ok (.if_icmp .ge 116, 3) := by decide +kernel
theorem dX1_listFrom_30 : decode cX1_listFrom 30 = .ok (.iload_n 2, 1) := by decide +kernel
theorem dX1_listFrom_31 : decode cX1_listFrom 31 = .ok (.ifCond .le 112, 3) := by decide +kernel
theorem dX1_listFrom_34 : decode cX1_listFrom 34 = .ok (.aload_n 0, 1) := by decide +kernel
theorem dX1_listFrom_35 : decode cX1_listFrom 35 = .ok (.getfield 35, 3) := by decide +kernel
theorem dX1_listFrom_38 : decode cX1_listFrom 38 = .ok (.iload_n 2, 1) := by decide +kernel
theorem dX1_listFrom_39 : decode cX1_listFrom 39 = .ok (.iconst 1, 1) := by decide +kernel
theorem dX1_listFrom_40 : decode cX1_listFrom 40 = .ok (.isub, 1) := by decide +kernel
theorem dX1_listFrom_41 : decode cX1_listFrom 41 = .ok (.iaload, 1) := by decide +kernel
theorem dX1_listFrom_42 : decode cX1_listFrom 42 = .ok (.istore 5, 2) := by decide +kernel
theorem dX1_listFrom_44 : decode cX1_listFrom 44 = .ok (.aload_n 0, 1) := by decide +kernel
theorem dX1_listFrom_45 : decode cX1_listFrom 45 = .ok (.getfield 38, 3) := by decide +kernel
theorem dX1_listFrom_48 : decode cX1_listFrom 48 = .ok (.iload 5, 2) := by decide +kernel
theorem dX1_listFrom_50 : decode cX1_listFrom 50 = .ok (.dup2, 1) := by decide +kernel
theorem dX1_listFrom_51 : decode cX1_listFrom 51 = .ok (.iaload, 1) := by decide +kernel
theorem dX1_listFrom_52 : decode cX1_listFrom 52 = .ok (.iconst 1, 1) := by decide +kernel
theorem dX1_listFrom_53 : decode cX1_listFrom 53 = .ok (.iadd, 1) := by decide +kernel
theorem dX1_listFrom_54 : decode cX1_listFrom 54 = .ok (.iastore, 1) := by decide +kernel
theorem dX1_listFrom_55 : decode cX1_listFrom 55 = .ok (.aload_n 0, 1) := by decide +kernel
theorem dX1_listFrom_56 : decode cX1_listFrom 56 = .ok (.getfield 38, 3) := by decide +kernel
theorem dX1_listFrom_59 : decode cX1_listFrom 59 = .ok (.iload 5, 2) := by decide +kernel
theorem dX1_listFrom_61 : decode cX1_listFrom 61 = .ok (.iaload, 1) := by decide +kernel
theorem dX1_listFrom_62 : decode cX1_listFrom 62 = .ok (.iconst 3, 1) := by decide +kernel
theorem dX1_listFrom_63 : decode cX1_listFrom 63 = .ok (.if_icmp .ne 20, 3) := by decide +kernel
theorem dX1_listFrom_66 : decode cX1_listFrom 66 = .ok (.aload_n 0, 1) := by decide +kernel
theorem dX1_listFrom_67 : decode cX1_listFrom 67 = .ok (.getfield 32, 3) := by decide +kernel
theorem dX1_listFrom_70 : decode cX1_listFrom 70 = .ok (.iload_n 3, 1) := by decide +kernel
theorem dX1_listFrom_71 : decode cX1_listFrom 71 = .ok (.iload 5, 2) := by decide +kernel
theorem dX1_listFrom_73 : decode cX1_listFrom 73 = .ok (.iastore, 1) := by decide +kernel
theorem dX1_listFrom_74 : decode cX1_listFrom 74 = .ok (.iinc 3 1, 3) := by decide +kernel
theorem dX1_listFrom_77 : decode cX1_listFrom 77 = .ok (.iinc 2 (-1), 3) := by decide +kernel
theorem dX1_listFrom_80 : decode cX1_listFrom 80 = .ok (.goto 57, 3) := by decide +kernel
theorem dX1_listFrom_83 : decode cX1_listFrom 83 = .ok (.aload_n 0, 1) := by decide +kernel
theorem dX1_listFrom_84 : decode cX1_listFrom 84 = .ok (.getfield 38, 3) := by decide +kernel
theorem dX1_listFrom_87 : decode cX1_listFrom 87 = .ok (.iload 5, 2) := by decide +kernel
theorem dX1_listFrom_89 : decode cX1_listFrom 89 = .ok (.iaload, 1) := by decide +kernel
theorem dX1_listFrom_90 : decode cX1_listFrom 90 = .ok (.iconst 1, 1) := by decide +kernel
theorem dX1_listFrom_91 : decode cX1_listFrom 91 = .ok (.if_icmp .ne 12, 3) := by decide +kernel
theorem dX1_listFrom_94 : decode cX1_listFrom 94 = .ok (.aload_n 0, 1) := by decide +kernel
theorem dX1_listFrom_95 : decode cX1_listFrom 95 = .ok (.iload 5, 2) := by decide +kernel
theorem dX1_listFrom_97 : decode cX1_listFrom 97 = .ok (.invokevirtual 107, 3) := by decide +kernel
theorem dX1_listFrom_100 : decode cX1_listFrom 100 = .ok (.goto 9, 3) := by decide +kernel
theorem dX1_listFrom_103 : decode cX1_listFrom 103 = .ok (.aload_n 0, 1) := by decide +kernel
theorem dX1_listFrom_104 : decode cX1_listFrom 104 = .ok (.iload 5, 2) := by decide +kernel
theorem dX1_listFrom_106 : decode cX1_listFrom 106 = .ok (.invokevirtual 111, 3) := by decide +kernel
theorem dX1_listFrom_109 : decode cX1_listFrom 109 = .ok (.istore 6, 2) := by decide +kernel
theorem dX1_listFrom_111 : decode cX1_listFrom 111 = .ok (.iload 6, 2) := by decide +kernel
theorem dX1_listFrom_113 : decode cX1_listFrom 113 = .ok (.ifCond .lt 24, 3) := by decide +kernel
theorem dX1_listFrom_116 : decode cX1_listFrom 116 = .ok (.aload_n 0, 1) := by decide +kernel
theorem dX1_listFrom_117 : decode cX1_listFrom 117 = .ok (.getfield 38, 3) := by decide +kernel
theorem dX1_listFrom_120 : decode cX1_listFrom 120 = .ok (.iload 6, 2) := by decide +kernel
theorem dX1_listFrom_122 : decode cX1_listFrom 122 = .ok (.iaload, 1) := by decide +kernel
theorem dX1_listFrom_123 : decode cX1_listFrom 123 = .ok (.ifCond .ne 14, 3) := by decide +kernel
theorem dX1_listFrom_126 : decode cX1_listFrom 126 = .ok (.aload_n 0, 1) := by decide +kernel
theorem dX1_listFrom_127 : decode cX1_listFrom 127 = .ok (.getfield 35, 3) := by decide +kernel
theorem dX1_listFrom_130 : decode cX1_listFrom 130 = .ok (.iload_n 2, 1) := by decide +kernel
theorem dX1_listFrom_131 : decode cX1_listFrom 131 = .ok (.iload 6, 2) := by decide +kernel
theorem dX1_listFrom_133 : decode cX1_listFrom 133 = .ok (.iastore, 1) := by decide +kernel
theorem dX1_listFrom_134 : decode cX1_listFrom 134 = .ok (.iinc 2 1, 3) := by decide +kernel
theorem dX1_listFrom_137 : decode cX1_listFrom 137 = .ok (.iinc 4 1, 3) := by decide +kernel
theorem dX1_listFrom_140 : decode cX1_listFrom 140 = .ok (.goto (-118), 3) := by decide +kernel
theorem dX1_listFrom_143 : decode cX1_listFrom 143 = .ok (.iload_n 3, 1) := by decide +kernel
theorem dX1_listFrom_144 : decode cX1_listFrom 144 = .ok (.ireturn, 1) := by decide +kernel
theorem dX1_isListed_0 : decode cX1_isListed 0 = .ok (.aload_n 0, 1) := by decide +kernel
theorem dX1_isListed_1 : decode cX1_isListed 1 = .ok (.getfield 38, 3) := by decide +kernel
theorem dX1_isListed_4 : decode cX1_isListed 4 = .ok (.iload_n 1, 1) := by decide +kernel
theorem dX1_isListed_5 : decode cX1_isListed 5 = .ok (.iaload, 1) := by decide +kernel
theorem dX1_isListed_6 : decode cX1_isListed 6 = .ok (.ifCond .le 7, 3) := by decide +kernel
theorem dX1_isListed_9 : decode cX1_isListed 9 = .ok (.iconst 1, 1) := by decide +kernel
theorem dX1_isListed_10 : decode cX1_isListed 10 = .ok (.goto 4, 3) := by decide +kernel
theorem dX1_isListed_13 : decode cX1_isListed 13 = .ok (.iconst 0, 1) := by decide +kernel
theorem dX1_isListed_14 : decode cX1_isListed 14 = .ok (.ireturn, 1) := by decide +kernel
theorem dX1_leftBelow_0 : decode cX1_leftBelow 0 = .ok (.aload_n 0, 1) := by decide +kernel
theorem dX1_leftBelow_1 : decode cX1_leftBelow 1 = .ok (.getfield 9, 3) := by decide +kernel
theorem dX1_leftBelow_4 : decode cX1_leftBelow 4 = .ok (.iload_n 1, 1) := by decide +kernel
theorem dX1_leftBelow_5 : decode cX1_leftBelow 5 = .ok (.iaload, 1) := by decide +kernel
theorem dX1_leftBelow_6 : decode cX1_leftBelow 6 = .ok (.ifCond .ne 7, 3) := by decide +kernel
theorem dX1_leftBelow_9 : decode cX1_leftBelow 9 = .ok (.iconst (-1), 1) := by decide +kernel
theorem dX1_leftBelow_10 : decode cX1_leftBelow 10 = .ok (.goto 9, 3) := by decide +kernel
theorem dX1_leftBelow_13 : decode cX1_leftBelow 13 = .ok (.aload_n 0, 1) := by decide +kernel
theorem dX1_leftBelow_14 : decode cX1_leftBelow 14 = .ok (.getfield 13, 3) := by decide +kernel
theorem dX1_leftBelow_17 : decode cX1_leftBelow 17 = .ok (.iload_n 1, 1) := by decide +kernel
theorem dX1_leftBelow_18 : decode cX1_leftBelow 18 = .ok (.iaload, 1) := by decide +kernel
theorem dX1_leftBelow_19 : decode cX1_leftBelow 19 = .ok (.ireturn, 1) := by decide +kernel
theorem dX1_rightBelow_0 : decode cX1_rightBelow 0 = .ok (.aload_n 0, 1) := by decide +kernel
theorem dX1_rightBelow_1 : decode cX1_rightBelow 1 = .ok (.getfield 9, 3) := by decide +kernel
theorem dX1_rightBelow_4 : decode cX1_rightBelow 4 = .ok (.iload_n 1, 1) := by decide +kernel
theorem dX1_rightBelow_5 : decode cX1_rightBelow 5 = .ok (.iaload, 1) := by decide +kernel
theorem dX1_rightBelow_6 : decode cX1_rightBelow 6 = .ok (.invokestatic 55, 3) := by decide +kernel
theorem dX1_rightBelow_9 : decode cX1_rightBelow 9 = .ok (.ifCond .eq 12, 3) := by decide +kernel
theorem dX1_rightBelow_12 : decode cX1_rightBelow 12 = .ok (.aload_n 0, 1) := by decide +kernel
theorem dX1_rightBelow_13 : decode cX1_rightBelow 13 = .ok (.getfield 16, 3) := by decide +kernel
theorem dX1_rightBelow_16 : decode cX1_rightBelow 16 = .ok (.iload_n 1, 1) := by decide +kernel
theorem dX1_rightBelow_17 : decode cX1_rightBelow 17 = .ok (.iaload, 1) := by decide +kernel
theorem dX1_rightBelow_18 : decode cX1_rightBelow 18 = .ok (.goto 4, 3) := by decide +kernel
theorem dX1_rightBelow_21 : decode cX1_rightBelow 21 = .ok (.iconst (-1), 1) := by decide +kernel
theorem dX1_rightBelow_22 : decode cX1_rightBelow 22 = .ok (.ireturn, 1) := by decide +kernel
